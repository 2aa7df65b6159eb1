set_option maxRecDepth 20000 in
theorem ggX4_init_X1_init : GoodIn wsX4_init wsX1_init := goodIn_r _ [17, 18, 2, 3, 12, 19, 20, 21, 22, 23, 36, 37, 38, 39, 40] (by decide +kernel) (by decide +kernel)
set_option maxRecDepth 20000 in
theorem gX4_init_X1_init : GoodIn wsX4_init (wsX1_init) := ggX4_init_X1_init
set_option maxRecDepth 20000 in
theorem ggX4_init_X3_init : GoodIn wsX4_init wsX3_init := goodIn_r _ [26, 27, 2, 3, 12, 28, 29, 30, 31, 32, 33, 34, 35, 45, 46, 47, 48, 49, 50, 51, 52] (by decide +kernel) (by decide +kernel)
set_option maxRecDepth 20000 in
theorem gX4_init_X3_init : GoodIn wsX4_init (wsX3_init) := ggX4_init_X3_init
theorem dX4_init_0 : decode cX4_init 0 = .ok (.aload_n 0, 1) := by decide +kernel
theorem dX4_init_1 : decode cX4_init 1 = .ok (.invokespecial 3, 3) := by decide +kernel
theorem dX4_init_4 : decode cX4_init 4 = .ok (.aload_n 0, 1) := by decide +kernel
theorem dX4_init_5 : decode cX4_init 5 = .ok (.new 9, 3) := by decide +kernel
theorem dX4_init_8 : decode cX4_init 8 = .ok (.dup, 1) := by decide +kernel
theorem dX4_init_9 : decode cX4_init 9 = .ok (.invokespecial 11, 3) := by decide +kernel
theorem dX4_init_12 : decode cX4_init 12 = .ok (.putfield 12, 3) := by decide +kernel
theorem dX4_init_15 : decode cX4_init 15 = .ok (.aload_n 0, 1) := by decide +kernel
theorem dX4_init_16 : decode cX4_init 16 = .ok (.new 18, 3) := by decide +kernel
theorem dX4_init_19 : decode cX4_init 19 = .ok (.dup, 1) := by decide +kernel
theorem dX4_init_20 : decode cX4_init 20 = .ok (.invokespecial 20, 3) := by decide +kernel
theorem dX4_init_23 : decode cX4_init 23 = .ok (.putfield 21, 3) := by decide +kernel
theorem dX4_init_26 : decode cX4_init 26 = .ok (.aload_n 0, 1) := by decide +kernel
theorem dX4_init_27 : decode cX4_init 27 = .ok (.bipush 7, 2) := by decide +kernel
theorem dX4_init_29 : decode cX4_init 29 = .ok (.newarray .int, 2) := by decide +kernel
theorem dX4_init_31 : decode cX4_init 31 = .ok (.putfield 25, 3) := by decide +kernel
theorem dX4_init_34 : decode cX4_init 34 = .ok (.aload_n 0, 1) := by decide +kernel
theorem dX4_init_35 : decode cX4_init 35 = .ok (.iconst 0, 1) := by decide +kernel
theorem dX4_init_36 : decode cX4_init 36 = .ok (.putfield 29, 3) := by decide +kernel
theorem dX4_init_39 : decode cX4_init 39 = .ok (.return_, 1) := by decide +kernel
set_option maxRecDepth 20000 in
theorem ggX4_readAll_X5_rewind : GoodIn wsX4_readAll wsX5_rewind := goodIn_r _ [13, 14, 15, 16, 17, 12, 18, 19, 20, 21, 22, 23, 24, 25, 26, 27, 28, 29, 30, 31, 32, 33, 34, 35, 36, 37, 38, 39, 40, 41, 42, 43, 44, 45, 46, 47, 48, 49, 50, 51, 52, 53, 54, 55, 56, 57, 58, 59, 60, 61, 62, 63, 64, 65, 66, 67, 68, 69, 70, 71, 72, 73, 74, 75, 76, 77, 78, 79, 80, 81, 82, 83, 84, 85, 86, 87, 88, 89, 90, 147, 148, 149, 150, 151, 152] (by decide +kernel) (by decide +kernel)
set_option maxRecDepth 20000 in
theorem gX4_readAll_X5_rewind : GoodIn wsX4_readAll (wsV RX4 46 RX5 yX5_rewind wsX5_rewind) := goodIn_app (goodIn_of _ (by decide +kernel)) ggX4_readAll_X5_rewind
set_option maxRecDepth 20000 in
theorem ggX4_readAll_X4_readItem : GoodIn wsX4_readAll wsX4_readItem := goodIn_r _ [95, 8, 96, 97, 98, 99, 100, 94, 101, 3, 4, 1, 2, 7, 102, 16, 17, 12, 18, 14, 19, 20, 21, 22, 23, 24, 25, 26, 27, 28, 29, 30, 31, 32, 33, 34, 35, 36, 37, 38, 39, 40, 41, 42, 43, 44, 45, 46, 47, 48, 49, 50, 51, 52, 53, 54, 55, 56, 57, 58, 59, 60, 61, 62, 63, 64, 65, 66, 67, 68, 69, 70, 71, 72, 73, 74, 75, 76, 77, 78, 79, 80, 81, 82, 83, 84, 85, 86, 87, 88, 89, 90, 103, 104, 105, 106, 107, 108, 109, 110, 111, 112, 6, 113, 114, 115, 116, 117, 118, 119, 120, 121, 122, 123, 124, 125, 126, 127, 128, 129, 147, 148, 149, 150, 151, 152, 130, 131, 132, 133, 139, 140, 141, 142, 143, 144, 145, 146, 134, 135, 136, 137, 138] (by decide +kernel) (by decide +kernel)
set_option maxRecDepth 20000 in
theorem gX4_readAll_X4_readItem : GoodIn wsX4_readAll (wsV RX4 54 RX4 yX4_readItem wsX4_readItem) := goodIn_app (goodIn_of _ (by decide +kernel)) ggX4_readAll_X4_readItem
theorem dX4_readAll_0 : decode cX4_readAll 0 = .ok (.aload_n 0, 1) := by decide +kernel
theorem dX4_readAll_1 : decode cX4_readAll 1 = .ok (.getfield 12, 3) := by decide +kernel
theorem dX4_readAll_4 : decode cX4_readAll 4 = .ok (.iconst 0, 1) := by decide +kernel
theorem dX4_readAll_5 : decode cX4_readAll 5 = .ok (.putfield 33, 3) := by decide +kernel
theorem dX4_readAll_8 : decode cX4_readAll 8 = .ok (.aload_n 0, 1) := by decide +kernel
theorem dX4_readAll_9 : decode cX4_readAll 9 = .ok (.getfield 21, 3) := by decide +kernel
theorem dX4_readAll_12 : decode cX4_readAll 12 = .ok (.iconst 0, 1) := by decide +kernel
theorem dX4_readAll_13 : decode cX4_readAll 13 = .ok (.putfield 37, 3) := by decide +kernel
theorem dX4_readAll_16 : decode cX4_readAll 16 = .ok (.aload_n 0, 1) := by decide +kernel
theorem dX4_readAll_17 : decode cX4_readAll 17 = .ok (.getfield 21, 3) := by decide +kernel
theorem dX4_readAll_20 : decode cX4_readAll 20 = .ok (.iconst 0, 1) := by decide +kernel
theorem dX4_readAll_21 : decode cX4_readAll 21 = .ok (.putfield 40, 3) := by decide +kernel
theorem dX4_readAll_24 : decode cX4_readAll 24 = .ok (.aload_n 0, 1) := by decide +kernel
theorem dX4_readAll_25 : decode cX4_readAll 25 = .ok (.getfield 21, 3) := by decide +kernel
theorem dX4_readAll_28 : decode cX4_readAll 28 = .ok (.iconst 0, 1) := by decide +kernel
theorem dX4_readAll_29 : decode cX4_readAll 29 = .ok (.putfield 43, 3) := by decide +kernel
theorem dX4_readAll_32 : decode cX4_readAll 32 = .ok (.aload_n 0, 1) := by decide +kernel
theorem dX4_readAll_33 : decode cX4_readAll 33 = .ok (.iconst 0, 1) := by decide +kernel
theorem dX4_readAll_34 : decode cX4_readAll 34 = .ok (.putfield 29, 3) := by decide +kernel
theorem dX4_readAll_37 : decode cX4_readAll 37 = .ok (.aload_n 1, 1) := by decide +kernel
theorem dX4_readAll_38 : decode cX4_readAll 38 = .ok (.invokevirtual 46, 3) := by decide +kernel
theorem dX4_readAll_41 : decode cX4_readAll 41 = .ok (.iconst 0, 1) := by decide +kernel
theorem dX4_readAll_42 : decode cX4_readAll 42 = .ok (.istore_n 2, 1) := by decide +kernel
theorem dX4_readAll_43 : decode cX4_readAll 43 = .ok (.iload_n 2, 1) := by decide +kernel
theorem dX4_readAll_44 : decode cX4_readAll 44 = .ok (.sipush 300, 3) := by decide +kernel
theorem dX4_readAll_47 : decode cX4_readAll 47 = .ok (.if_icmp .gt 28, 3) := by decide +kernel
theorem dX4_readAll_50 : decode cX4_readAll 50 = .ok (.aload_n 1, 1) := by decide +kernel
theorem dX4_readAll_51 : decode cX4_readAll 51 = .ok (.getfield 51, 3) := by decide +kernel
theorem dX4_readAll_54 : decode cX4_readAll 54 = .ok (.ifCond .ne 5, 3) := by decide +kernel
theorem dX4_readAll_57 : decode cX4_readAll 57 = .ok (.iload_n 2, 1) := by decide +kernel
theorem dX4_readAll_58 : decode cX4_readAll 58 = .ok (.ireturn, 1) := by decide +kernel
theorem dX4_readAll_59 : decode cX4_readAll 59 = .ok (.aload_n 0, 1) := by decide +kernel
theorem dX4_readAll_60 : decode cX4_readAll 60 = .ok (.aload_n 1, 1) := by decide +kernel
theorem dX4_readAll_61 : decode cX4_readAll 61 = .ok (.invokevirtual 54, 3) := by decide +kernel
theorem dX4_readAll_64 : decode cX4_readAll 64 = .ok (.ifCond .ne 5, 3) := by decide +kernel
theorem dX4_readAll_67 : decode cX4_readAll 67 = .ok (.iconst (-1), 1) := by decide +kernel
theorem dX4_readAll_68 : decode cX4_readAll 68 = .ok (.ireturn, 1) := by decide +kernel
theorem dX4_readAll_69 : decode cX4_readAll 69 = .ok (.iinc 2 1, 3) := by decide +kernel
theorem dX4_readAll_72 : decode cX4_readAll 72 = .ok (.goto (-29), 3) := by decide +kernel
theorem dX4_readAll_75 : decode cX4_readAll 75 = .ok (.iconst (-1), 1) := by decide +kernel
theorem dX4_readAll_76 : decode cX4_readAll 76 = .ok (.ireturn, 1) := by decide +kernel
set_option maxRecDepth 20000 in
theorem ggX4_readItem_X4_mayBegin : GoodIn wsX4_readItem wsX4_mayBegin := goodIn_r _ [8, 9, 10, 11, 12, 13, 126, 127, 128, 129, 130, 131, 132, 133, 134, 135, 136, 137, 138, 139, 140, 141, 142] (by decide +kernel) (by decide +kernel)
set_option maxRecDepth 20000 in
theorem gX4_readItem_X4_mayBegin : GoodIn wsX4_readItem (wsV RX4 58 RX4 yX4_mayBegin wsX4_mayBegin) := goodIn_app (goodIn_of _ (by decide +kernel)) ggX4_readItem_X4_mayBegin
set_option maxRecDepth 20000 in
theorem ggX4_readItem_X5_step : GoodIn wsX4_readItem wsX5_step := goodIn_r _ [18, 19, 20, 21, 22, 23, 24, 25, 26, 17, 27, 28, 29, 30, 31, 32, 33, 34, 35, 36, 37, 38, 39, 40, 41, 42, 43, 44, 45, 46, 47, 48, 49, 50, 51, 52, 53, 54, 55, 56, 57, 58, 59, 60, 61, 62, 63, 64, 65, 66, 67, 68, 69, 70, 71, 72, 73, 74, 75, 76, 77, 78, 79, 80, 81, 82, 83, 84, 85, 86, 87, 88, 89, 90, 91, 120, 121, 122, 123, 124, 125] (by decide +kernel) (by decide +kernel)
set_option maxRecDepth 20000 in
theorem gX4_readItem_X5_step : GoodIn wsX4_readItem (wsV RX4 62 RX5 yX5_step wsX5_step) := goodIn_app (goodIn_of _ (by decide +kernel)) ggX4_readItem_X5_step
set_option maxRecDepth 20000 in
theorem ggX4_readItem_X4_numbersOf : GoodIn wsX4_readItem wsX4_numbersOf := goodIn_r _ [94] (by decide +kernel) (by decide +kernel)
set_option maxRecDepth 20000 in
theorem gX4_readItem_X4_numbersOf : GoodIn wsX4_readItem (va_wsS RX4 65 yX4_numbersOf wsX4_numbersOf) := goodIn_app (goodIn_of _ (by decide +kernel)) ggX4_readItem_X4_numbersOf
set_option maxRecDepth 20000 in
theorem ggX4_readItem_X4_mostOf : GoodIn wsX4_readItem wsX4_mostOf := goodIn_r _ [97] (by decide +kernel) (by decide +kernel)
set_option maxRecDepth 20000 in
theorem gX4_readItem_X4_mostOf : GoodIn wsX4_readItem (va_wsS RX4 72 yX4_mostOf wsX4_mostOf) := goodIn_app (goodIn_of _ (by decide +kernel)) ggX4_readItem_X4_mostOf
set_option maxRecDepth 20000 in
theorem ggX4_readItem_X4_draft : GoodIn wsX4_readItem wsX4_draft := goodIn_r _ [101, 9, 3, 11, 102, 13, 103, 104, 105, 106, 107, 108, 109, 110, 111, 112, 113, 114, 115, 116, 117, 118, 119, 126, 127, 128, 129, 130, 131, 132, 133, 134, 135, 136, 137, 138, 139, 140, 141, 142] (by decide +kernel) (by decide +kernel)
set_option maxRecDepth 20000 in
theorem gX4_readItem_X4_draft : GoodIn wsX4_readItem (wsV RX4 76 RX4 yX4_draft wsX4_draft) := goodIn_app (goodIn_of _ (by decide +kernel)) ggX4_readItem_X4_draft
theorem dX4_readItem_0 : decode cX4_readItem 0 = .ok (.aload_n 1, 1) := by decide +kernel
theorem dX4_readItem_1 : decode cX4_readItem 1 = .ok (.getfield 51, 3) := by decide +kernel
theorem dX4_readItem_4 : decode cX4_readItem 4 = .ok (.istore_n 2, 1) := by decide +kernel
theorem dX4_readItem_5 : decode cX4_readItem 5 = .ok (.aload_n 0, 1) := by decide +kernel
theorem dX4_readItem_6 : decode cX4_readItem 6 = .ok (.iload_n 2, 1) := by decide +kernel
theorem dX4_readItem_7 : decode cX4_readItem 7 = .ok (.invokevirtual 58, 3) := by decide +kernel
theorem dX4_readItem_10 : decode cX4_readItem 10 = .ok (.ifCond .ne 5, 3) := by decide +kernel
theorem dX4_readItem_13 : decode cX4_readItem 13 = .ok (.iconst 0, 1) := by decide +kernel
theorem dX4_readItem_14 : decode cX4_readItem 14 = .ok (.ireturn, 1) := by decide +kernel
theorem dX4_readItem_15 : decode cX4_readItem 15 = .ok (.aload_n 1, 1) := by decide +kernel
theorem dX4_readItem_16 : decode cX4_readItem 16 = .ok (.invokevirtual 62, 3) := by decide +kernel
theorem dX4_readItem_19 : decode cX4_readItem 19 = .ok (.iload_n 2, 1) := by decide +kernel
theorem dX4_readItem_20 : decode cX4_readItem 20 = .ok (.invokestatic 65, 3) := by decide +kernel
theorem dX4_readItem_23 : decode cX4_readItem 23 = .ok (.istore_n 3, 1) := by decide +kernel
theorem dX4_readItem_24 : decode cX4_readItem 24 = .ok (.iconst 0, 1) := by decide +kernel
theorem dX4_readItem_25 : decode cX4_readItem 25 = .ok (.istore 4, 2) := by decide +kernel
theorem dX4_readItem_27 : decode cX4_readItem 27 = .ok (.iload 4, 2) := by decide +kernel
theorem dX4_readItem_29 : decode cX4_readItem 29 = .ok (.iload_n 3, 1) := by decide +kernel
theorem dX4_readItem_30 : decode cX4_readItem 30 = .ok (.if_icmp .ge 47, 3) := by decide +kernel
theorem dX4_readItem_33 : decode cX4_readItem 33 = .ok (.aload_n 1, 1) := by decide +kernel
theorem dX4_readItem_34 : decode cX4_readItem 34 = .ok (.getfield 51, 3) := by decide +kernel
theorem dX4_readItem_37 : decode cX4_readItem 37 = .ok (.iconst 2, 1) := by decide +kernel
theorem dX4_readItem_38 : decode cX4_readItem 38 = .ok (.if_icmp .ne 16, 3) := by decide +kernel
theorem dX4_readItem_41 : decode cX4_readItem 41 = .ok (.aload_n 1, 1) := by decide +kernel
theorem dX4_readItem_42 : decode cX4_readItem 42 = .ok (.getfield 69, 3) := by decide +kernel
theorem dX4_readItem_45 : decode cX4_readItem 45 = .ok (.iload_n 2, 1) := by decide +kernel
theorem dX4_readItem_46 : decode cX4_readItem 46 = .ok (.iload 4, 2) := by decide +kernel
theorem dX4_readItem_48 : decode cX4_readItem 48 = .ok (.invokestatic 72, 3) := by decide +kernel
theorem dX4_readItem_51 : decode cX4_readItem 51 = .ok (.if_icmp .le 5, 3) := by decide +kernel
theorem dX4_readItem_54 : decode cX4_readItem 54 = .ok (.iconst 0, 1) := by decide +kernel
theorem dX4_readItem_55 : decode cX4_readItem 55 = .ok (.ireturn, 1) := by decide +kernel
theorem dX4_readItem_56 : decode cX4_readItem 56 = .ok (.aload_n 0, 1) := by decide +kernel
theorem dX4_readItem_57 : decode cX4_readItem 57 = .ok (.getfield 25, 3) := by decide +kernel
theorem dX4_readItem_60 : decode cX4_readItem 60 = .ok (.iload 4, 2) := by decide +kernel
theorem dX4_readItem_62 : decode cX4_readItem 62 = .ok (.aload_n 1, 1) := by decide +kernel
theorem dX4_readItem_63 : decode cX4_readItem 63 = .ok (.getfield 69, 3) := by decide +kernel
theorem dX4_readItem_66 : decode cX4_readItem 66 = .ok (.iastore, 1) := by decide +kernel
theorem dX4_readItem_67 : decode cX4_readItem 67 = .ok (.aload_n 1, 1) := by decide +kernel
theorem dX4_readItem_68 : decode cX4_readItem 68 = .ok (.invokevirtual 62, 3) := by decide +kernel
theorem dX4_readItem_71 : decode cX4_readItem 71 = .ok (.iinc 4 1, 3) := by decide +kernel
theorem dX4_readItem_74 : decode cX4_readItem 74 = .ok (.goto (-47), 3) := by decide +kernel
theorem dX4_readItem_77 : decode cX4_readItem 77 = .ok (.aload_n 1, 1) := by decide +kernel
theorem dX4_readItem_78 : decode cX4_readItem 78 = .ok (.getfield 51, 3) := by decide +kernel
theorem dX4_readItem_81 : decode cX4_readItem 81 = .ok (.iconst 3, 1) := by decide +kernel
theorem dX4_readItem_82 : decode cX4_readItem 82 = .ok (.if_icmp .eq 5, 3) := by decide +kernel
theorem dX4_readItem_85 : decode cX4_readItem 85 = .ok (.iconst 0, 1) := by decide +kernel
theorem dX4_readItem_86 : decode cX4_readItem 86 = .ok (.ireturn, 1) := by decide +kernel
theorem dX4_readItem_87 : decode cX4_readItem 87 = .ok (.aload_n 0, 1) := by decide +kernel
theorem dX4_readItem_88 : decode cX4_readItem 88 = .ok (.iload_n 2, 1) := by decide +kernel
theorem dX4_readItem_89 : decode cX4_readItem 89 = .ok (.invokevirtual 76, 3) := by decide +kernel
theorem dX4_readItem_92 : decode cX4_readItem 92 = .ok (.aload_n 1, 1) := by decide +kernel
theorem dX4_readItem_93 : decode cX4_readItem 93 = .ok (.invokevirtual 62, 3) := by decide +kernel
theorem dX4_readItem_96 : decode cX4_readItem 96 = .ok (.iconst 1, 1) := by decide +kernel
theorem dX4_readItem_97 : decode cX4_readItem 97 = .ok (.ireturn, 1) := by decide +kernel
theorem dX4_mayBegin_0 : decode cX4_mayBegin 0 = .ok (.iload_n 1, 1) := by decide +kernel
theorem dX4_mayBegin_1 : decode cX4_mayBegin 1 = .ok (.tableswitch 76 4 6 #[27, 45, 63], 27) := by decide +kernel
theorem dX4_mayBegin_28 : decode cX4_mayBegin 28 = .ok (.aload_n 0, 1) := by decide +kernel
theorem dX4_mayBegin_29 : decode cX4_mayBegin 29 = .ok (.getfield 21, 3) := by decide +kernel
theorem dX4_mayBegin_32 : decode cX4_mayBegin 32 = .ok (.getfield 37, 3) := by decide +kernel
theorem dX4_mayBegin_35 : decode cX4_mayBegin 35 = .ok (.bipush 6, 2) := by decide +kernel
theorem dX4_mayBegin_37 : decode cX4_mayBegin 37 = .ok (.if_icmp .ge 7, 3) := by decide +kernel
theorem dX4_mayBegin_40 : decode cX4_mayBegin 40 = .ok (.iconst 1, 1) := by decide +kernel
theorem dX4_mayBegin_41 : decode cX4_mayBegin 41 = .ok (.goto 4, 3) := by decide +kernel
theorem dX4_mayBegin_44 : decode cX4_mayBegin 44 = .ok (.iconst 0, 1) := by decide +kernel
theorem dX4_mayBegin_45 : decode cX4_mayBegin 45 = .ok (.ireturn, 1) := by decide +kernel
theorem dX4_mayBegin_46 : decode cX4_mayBegin 46 = .ok (.aload_n 0, 1) := by decide +kernel
theorem dX4_mayBegin_47 : decode cX4_mayBegin 47 = .ok (.getfield 12, 3) := by decide +kernel
theorem dX4_mayBegin_50 : decode cX4_mayBegin 50 = .ok (.getfield 33, 3) := by decide +kernel
theorem dX4_mayBegin_53 : decode cX4_mayBegin 53 = .ok (.bipush 8, 2) := by decide +kernel
theorem dX4_mayBegin_55 : decode cX4_mayBegin 55 = .ok (.if_icmp .ge 7, 3) := by decide +kernel
theorem dX4_mayBegin_58 : decode cX4_mayBegin 58 = .ok (.iconst 1, 1) := by decide +kernel
theorem dX4_mayBegin_59 : decode cX4_mayBegin 59 = .ok (.goto 4, 3) := by decide +kernel
theorem dX4_mayBegin_62 : decode cX4_mayBegin 62 = .ok (.iconst 0, 1) := by decide +kernel
theorem dX4_mayBegin_63 : decode cX4_mayBegin 63 = .ok (.ireturn, 1) := by decide +kernel
theorem dX4_mayBegin_64 : decode cX4_mayBegin 64 = .ok (.aload_n 0, 1) := by decide +kernel
theorem dX4_mayBegin_65 : decode cX4_mayBegin 65 = .ok (.getfield 29, 3) := by decide +kernel
theorem dX4_mayBegin_68 : decode cX4_mayBegin 68 = .ok (.ifCond .ne 7, 3) := by decide +kernel
theorem dX4_mayBegin_71 : decode cX4_mayBegin 71 = .ok (.iconst 1, 1) := by decide +kernel
theorem dX4_mayBegin_72 : decode cX4_mayBegin 72 = .ok (.goto 4, 3) := by decide +kernel
theorem dX4_mayBegin_75 : decode cX4_mayBegin 75 = .ok (.iconst 0, 1) := by decide +kernel
theorem dX4_mayBegin_76 : decode cX4_mayBegin 76 = .ok (.ireturn, 1) := by decide +kernel
theorem dX4_mayBegin_77 : decode cX4_mayBegin 77 = .ok (.iconst 0, 1) := by decide +kernel
theorem dX4_mayBegin_78 : decode cX4_mayBegin 78 = .ok (.ireturn, 1) := by decide +kernel
theorem dX4_numbersOf_0 : decode cX4_numbersOf 0 = .ok (.iload_n 0, 1) := by decide +kernel
theorem dX4_numbersOf_1 : decode cX4_numbersOf 1 = .ok (.tableswitch 34 4 6 #[27, 29, 32], 27) := by decide +kernel
theorem dX4_numbersOf_28 : decode cX4_numbersOf 28 = .ok (.iconst 5, 1) := by decide +kernel
theorem dX4_numbersOf_29 : decode cX4_numbersOf 29 = .ok (.ireturn, 1) := by decide +kernel
theorem dX4_numbersOf_30 : decode cX4_numbersOf 30 = .ok (.bipush 7, 2) := by decide +kernel
theorem dX4_numbersOf_32 : decode cX4_numbersOf 32 = .ok (.ireturn, 1) := by decide +kernel
theorem dX4_numbersOf_33 : decode cX4_numbersOf 33 = .ok (.iconst 1, 1) := by decide +kernel
theorem dX4_numbersOf_34 : decode cX4_numbersOf 34 = .ok (.ireturn, 1) := by decide +kernel
theorem dX4_numbersOf_35 : decode cX4_numbersOf 35 = .ok (.iconst 0, 1) := by decide +kernel
theorem dX4_numbersOf_36 : decode cX4_numbersOf 36 = .ok (.ireturn, 1) := by decide +kernel
theorem dX4_mostOf_0 : decode cX4_mostOf 0 = .ok (.iload_n 0, 1) := by decide +kernel
theorem dX4_mostOf_1 : decode cX4_mostOf 1 = .ok (.bipush 6, 2) := by decide +kernel
theorem dX4_mostOf_3 : decode cX4_mostOf 3 = .ok (.if_icmp .ne 5, 3) := by decide +kernel
theorem dX4_mostOf_6 : decode cX4_mostOf 6 = .ok (.iconst 5, 1) := by decide +kernel
theorem dX4_mostOf_7 : decode cX4_mostOf 7 = .ok (.ireturn, 1) := by decide +kernel
theorem dX4_mostOf_8 : decode cX4_mostOf 8 = .ok (.iload_n 1, 1) := by decide +kernel
theorem dX4_mostOf_9 : decode cX4_mostOf 9 = .ok (.iconst 5, 1) := by decide +kernel
theorem dX4_mostOf_10 : decode cX4_mostOf 10 = .ok (.if_icmp .ge 6, 3) := by decide +kernel
theorem dX4_mostOf_13 : decode cX4_mostOf 13 = .ok (.bipush 9, 2) := by decide +kernel
theorem dX4_mostOf_15 : decode cX4_mostOf 15 = .ok (.ireturn, 1) := by decide +kernel
theorem dX4_mostOf_16 : decode cX4_mostOf 16 = .ok (.iload_n 1, 1) := by decide +kernel
theorem dX4_mostOf_17 : decode cX4_mostOf 17 = .ok (.iconst 5, 1) := by decide +kernel
theorem dX4_mostOf_18 : decode cX4_mostOf 18 = .ok (.if_icmp .ne 8, 3) := by decide +kernel
theorem dX4_mostOf_21 : decode cX4_mostOf 21 = .ok (.bipush 7, 2) := by decide +kernel
theorem dX4_mostOf_23 : decode cX4_mostOf 23 = .ok (.goto 5, 3) := by decide +kernel
theorem dX4_mostOf_26 : decode cX4_mostOf 26 = .ok (.bipush 7, 2) := by decide +kernel
theorem dX4_mostOf_28 : decode cX4_mostOf 28 = .ok (.ireturn, 1) := by decide +kernel
set_option maxRecDepth 20000 in
theorem ggX4_draft_X3_settle : GoodIn wsX4_draft wsX3_settle := goodIn_r _ [10, 11, 12, 27, 28, 29, 30, 31, 32, 33, 34] (by decide +kernel) (by decide +kernel)
set_option maxRecDepth 20000 in
theorem gX4_draft_X3_settle : GoodIn wsX4_draft (wsV RX4 80 RX3 yX3_settle wsX3_settle) := goodIn_app (goodIn_of _ (by decide +kernel)) ggX4_draft_X3_settle
set_option maxRecDepth 20000 in
theorem ggX4_draft_X1_list : GoodIn wsX4_draft wsX1_list := goodIn_r _ [17, 18, 19, 20, 21, 22, 35, 36, 37, 38, 39] (by decide +kernel) (by decide +kernel)
set_option maxRecDepth 20000 in
theorem gX4_draft_X1_list : GoodIn wsX4_draft (wsV RX4 84 RX1 yX1_list wsX1_list) := goodIn_app (goodIn_of _ (by decide +kernel)) ggX4_draft_X1_list
theorem dX4_draft_0 : decode cX4_draft 0 = .ok (.iload_n 1, 1) := by decide +kernel
theorem dX4_draft_1 : decode cX4_draft 1 = .ok (.iconst 4, 1) := by decide +kernel
theorem dX4_draft_2 : decode cX4_draft 2 = .ok (.if_icmp .ne 17, 3) := by decide +kernel
theorem dX4_draft_5 : decode cX4_draft 5 = .ok (.aload_n 0, 1) := by decide +kernel
theorem dX4_draft_6 : decode cX4_draft 6 = .ok (.getfield 21, 3) := by decide +kernel
theorem dX4_draft_9 : decode cX4_draft 9 = .ok (.aload_n 0, 1) := by decide +kernel
theorem dX4_draft_10 : decode cX4_draft 10 = .ok (.getfield 25, 3) := by decide +kernel
theorem dX4_draft_13 : decode cX4_draft 13 = .ok (.invokevirtual 80, 3) := by decide +kernel
theorem dX4_draft_16 : decode cX4_draft 16 = .ok (.goto 40, 3) := by decide +kernel
theorem dX4_draft_19 : decode cX4_draft 19 = .ok (.iload_n 1, 1) := by decide +kernel
theorem dX4_draft_20 : decode cX4_draft 20 = .ok (.iconst 5, 1) := by decide +kernel
theorem dX4_draft_21 : decode cX4_draft 21 = .ok (.if_icmp .ne 17, 3) := by decide +kernel
theorem dX4_draft_24 : decode cX4_draft 24 = .ok (.aload_n 0, 1) := by decide +kernel
theorem dX4_draft_25 : decode cX4_draft 25 = .ok (.getfield 12, 3) := by decide +kernel
theorem dX4_draft_28 : decode cX4_draft 28 = .ok (.aload_n 0, 1) := by decide +kernel
theorem dX4_draft_29 : decode cX4_draft 29 = .ok (.getfield 25, 3) := by decide +kernel
theorem dX4_draft_32 : decode cX4_draft 32 = .ok (.invokevirtual 84, 3) := by decide +kernel
theorem dX4_draft_35 : decode cX4_draft 35 = .ok (.goto 21, 3) := by decide +kernel
theorem dX4_draft_38 : decode cX4_draft 38 = .ok (.aload_n 0, 1) := by decide +kernel
theorem dX4_draft_39 : decode cX4_draft 39 = .ok (.getfield 21, 3) := by decide +kernel
theorem dX4_draft_42 : decode cX4_draft 42 = .ok (.aload_n 0, 1) := by decide +kernel
theorem dX4_draft_43 : decode cX4_draft 43 = .ok (.getfield 25, 3) := by decide +kernel
theorem dX4_draft_46 : decode cX4_draft 46 = .ok (.iconst 0, 1) := by decide +kernel
theorem dX4_draft_47 : decode cX4_draft 47 = .ok (.iaload, 1) := by decide +kernel
theorem dX4_draft_48 : decode cX4_draft 48 = .ok (.putfield 43, 3) := by decide +kernel
theorem dX4_draft_51 : decode cX4_draft 51 = .ok (.aload_n 0, 1) := by decide +kernel
theorem dX4_draft_52 : decode cX4_draft 52 = .ok (.iconst 1, 1) := by decide +kernel
theorem dX4_draft_53 : decode cX4_draft 53 = .ok (.putfield 29, 3) := by decide +kernel
theorem dX4_draft_56 : decode cX4_draft 56 = .ok (.return_, 1) := by decide +kernel
