theorem dX2_init_0 : decode cX2_init 0 = .ok (.aload_n 0, 1) := by decide +kernel
theorem dX2_init_1 : decode cX2_init 1 = .ok (.invokespecial 3, 3) := by decide +kernel
theorem dX2_init_4 : decode cX2_init 4 = .ok (.aload_n 0, 1) := by decide +kernel
theorem dX2_init_5 : decode cX2_init 5 = .ok (.iconst 3, 1) := by decide +kernel
theorem dX2_init_6 : decode cX2_init 6 = .ok (.newarray .int, 2) := by decide +kernel
theorem dX2_init_8 : decode cX2_init 8 = .ok (.putfield 9, 3) := by decide +kernel
theorem dX2_init_11 : decode cX2_init 11 = .ok (.aload_n 0, 1) := by decide +kernel
theorem dX2_init_12 : decode cX2_init 12 = .ok (.iconst 3, 1) := by decide +kernel
theorem dX2_init_13 : decode cX2_init 13 = .ok (.newarray .int, 2) := by decide +kernel
theorem dX2_init_15 : decode cX2_init 15 = .ok (.putfield 15, 3) := by decide +kernel
theorem dX2_init_18 : decode cX2_init 18 = .ok (.aload_n 0, 1) := by decide +kernel
theorem dX2_init_19 : decode cX2_init 19 = .ok (.iconst 3, 1) := by decide +kernel
theorem dX2_init_20 : decode cX2_init 20 = .ok (.newarray .int, 2) := by decide +kernel
theorem dX2_init_22 : decode cX2_init 22 = .ok (.putfield 18, 3) := by decide +kernel
theorem dX2_init_25 : decode cX2_init 25 = .ok (.aload_n 0, 1) := by decide +kernel
theorem dX2_init_26 : decode cX2_init 26 = .ok (.iconst 5, 1) := by decide +kernel
theorem dX2_init_27 : decode cX2_init 27 = .ok (.newarray .int, 2) := by decide +kernel
theorem dX2_init_29 : decode cX2_init 29 = .ok (.putfield 21, 3) := by decide +kernel
theorem dX2_init_32 : decode cX2_init 32 = .ok (.return_, 1) := by decide +kernel
theorem dX2_hear_0 : decode cX2_hear 0 = .ok (.aload_n 0, 1) := by decide +kernel
theorem dX2_hear_1 : decode cX2_hear 1 = .ok (.getfield 9, 3) := by decide +kernel
theorem dX2_hear_4 : decode cX2_hear 4 = .ok (.iconst 0, 1) := by decide +kernel
theorem dX2_hear_5 : decode cX2_hear 5 = .ok (.iload_n 1, 1) := by decide +kernel
theorem dX2_hear_6 : decode cX2_hear 6 = .ok (.iastore, 1) := by decide +kernel
theorem dX2_hear_7 : decode cX2_hear 7 = .ok (.aload_n 0, 1) := by decide +kernel
theorem dX2_hear_8 : decode cX2_hear 8 = .ok (.getfield 9, 3) := by decide +kernel
theorem dX2_hear_11 : decode cX2_hear 11 = .ok (.iconst 1, 1) := by decide +kernel
theorem dX2_hear_12 : decode cX2_hear 12 = .ok (.iload_n 2, 1) := by decide +kernel
theorem dX2_hear_13 : decode cX2_hear 13 = .ok (.iastore, 1) := by decide +kernel
theorem dX2_hear_14 : decode cX2_hear 14 = .ok (.aload_n 0, 1) := by decide +kernel
theorem dX2_hear_15 : decode cX2_hear 15 = .ok (.getfield 9, 3) := by decide +kernel
theorem dX2_hear_18 : decode cX2_hear 18 = .ok (.iconst 2, 1) := by decide +kernel
theorem dX2_hear_19 : decode cX2_hear 19 = .ok (.iload_n 3, 1) := by decide +kernel
theorem dX2_hear_20 : decode cX2_hear 20 = .ok (.iastore, 1) := by decide +kernel
theorem dX2_hear_21 : decode cX2_hear 21 = .ok (.aload_n 0, 1) := by decide +kernel
theorem dX2_hear_22 : decode cX2_hear 22 = .ok (.iload_n 2, 1) := by decide +kernel
theorem dX2_hear_23 : decode cX2_hear 23 = .ok (.iconst (-1), 1) := by decide +kernel
theorem dX2_hear_24 : decode cX2_hear 24 = .ok (.if_icmp .ne 7, 3) := by decide +kernel
theorem dX2_hear_27 : decode cX2_hear 27 = .ok (.iconst 1, 1) := by decide +kernel
theorem dX2_hear_28 : decode cX2_hear 28 = .ok (.goto 13, 3) := by decide +kernel
theorem dX2_hear_31 : decode cX2_hear 31 = .ok (.iload_n 3, 1) := by decide +kernel
theorem dX2_hear_32 : decode cX2_hear 32 = .ok (.iconst (-1), 1) := by decide +kernel
theorem dX2_hear_33 : decode cX2_hear 33 = .ok (.if_icmp .ne 7, 3) := by decide +kernel
theorem dX2_hear_36 : decode cX2_hear 36 = .ok (.iconst 2, 1) := by decide +kernel
theorem dX2_hear_37 : decode cX2_hear 37 = .ok (.goto 4, 3) := by decide +kernel
theorem dX2_hear_40 : decode cX2_hear 40 = .ok (.iconst 3, 1) := by decide +kernel
theorem dX2_hear_41 : decode cX2_hear 41 = .ok (.putfield 24, 3) := by decide +kernel
theorem dX2_hear_44 : decode cX2_hear 44 = .ok (.return_, 1) := by decide +kernel
set_option maxRecDepth 20000 in
theorem ggX2_fewestUnits_X2_choose : GoodIn wsX2_fewestUnits wsX2_choose := goodIn_r _ [5, 6, 7, 8, 9, 10, 11, 12, 13, 14, 15, 4, 16, 1, 17, 2, 3, 18, 19, 20, 21, 22, 23, 24, 25, 26, 27, 28, 29, 30, 31, 32, 33, 34, 35, 36, 37, 38, 39, 40, 41, 42, 43, 44, 45, 46] (by decide +kernel) (by decide +kernel)
set_option maxRecDepth 20000 in
theorem gX2_fewestUnits_X2_choose : GoodIn wsX2_fewestUnits (va_wsS RX2 31 yX2_choose wsX2_choose) := goodIn_app (goodIn_of _ (by decide +kernel)) ggX2_fewestUnits_X2_choose
theorem dX2_fewestUnits_0 : decode cX2_fewestUnits 0 = .ok (.aload_n 0, 1) := by decide +kernel
theorem dX2_fewestUnits_1 : decode cX2_fewestUnits 1 = .ok (.bipush (-9), 2) := by decide +kernel
theorem dX2_fewestUnits_3 : decode cX2_fewestUnits 3 = .ok (.putfield 28, 3) := by decide +kernel
theorem dX2_fewestUnits_6 : decode cX2_fewestUnits 6 = .ok (.aload_n 0, 1) := by decide +kernel
theorem dX2_fewestUnits_7 : decode cX2_fewestUnits 7 = .ok (.aload_n 1, 1) := by decide +kernel
theorem dX2_fewestUnits_8 : decode cX2_fewestUnits 8 = .ok (.iconst 0, 1) := by decide +kernel
theorem dX2_fewestUnits_9 : decode cX2_fewestUnits 9 = .ok (.iload_n 2, 1) := by decide +kernel
theorem dX2_fewestUnits_10 : decode cX2_fewestUnits 10 = .ok (.iconst 0, 1) := by decide +kernel
theorem dX2_fewestUnits_11 : decode cX2_fewestUnits 11 = .ok (.invokestatic 31, 3) := by decide +kernel
theorem dX2_fewestUnits_14 : decode cX2_fewestUnits 14 = .ok (.aload_n 0, 1) := by decide +kernel
theorem dX2_fewestUnits_15 : decode cX2_fewestUnits 15 = .ok (.getfield 28, 3) := by decide +kernel
theorem dX2_fewestUnits_18 : decode cX2_fewestUnits 18 = .ok (.ireturn, 1) := by decide +kernel
set_option maxRecDepth 20000 in
theorem ggX2_mostPlaces_J6_bitCount_0f7a4 : GoodIn wsX2_mostPlaces wsJ6_bitCount_0f7a4 := goodIn_r _ [5, 6, 7, 8] (by decide +kernel) (by decide +kernel)
set_option maxRecDepth 20000 in
theorem gX2_mostPlaces_J6_bitCount_0f7a4 : GoodIn wsX2_mostPlaces (va_wsS RX2 35 yJ6_bitCount_0f7a4 wsJ6_bitCount_0f7a4) := goodIn_app (goodIn_of _ (by decide +kernel)) ggX2_mostPlaces_J6_bitCount_0f7a4
set_option maxRecDepth 20000 in
theorem ggX2_mostPlaces_X2_fewestUnits : GoodIn wsX2_mostPlaces wsX2_fewestUnits := goodIn_r _ [13, 14, 15, 16, 12, 17, 1, 18, 19, 20, 21, 22, 23, 24, 25, 26, 27, 28, 29, 30, 31, 32, 33, 34, 35, 36, 37, 38, 39, 40, 41, 42, 43, 44, 45, 46, 47, 48, 49, 50, 51, 52, 53, 54, 55, 56, 57] (by decide +kernel) (by decide +kernel)
set_option maxRecDepth 20000 in
theorem gX2_mostPlaces_X2_fewestUnits : GoodIn wsX2_mostPlaces (wsV RX2 41 RX2 yX2_fewestUnits wsX2_fewestUnits) := goodIn_app (goodIn_of _ (by decide +kernel)) ggX2_mostPlaces_X2_fewestUnits
theorem dX2_mostPlaces_0 : decode cX2_mostPlaces 0 = .ok (.iconst 0, 1) := by decide +kernel
theorem dX2_mostPlaces_1 : decode cX2_mostPlaces 1 = .ok (.istore_n 2, 1) := by decide +kernel
theorem dX2_mostPlaces_2 : decode cX2_mostPlaces 2 = .ok (.iconst 1, 1) := by decide +kernel
theorem dX2_mostPlaces_3 : decode cX2_mostPlaces 3 = .ok (.istore_n 3, 1) := by decide +kernel
theorem dX2_mostPlaces_4 : decode cX2_mostPlaces 4 = .ok (.iload_n 3, 1) := by decide +kernel
theorem dX2_mostPlaces_5 : decode cX2_mostPlaces 5 = .ok (.iconst 1, 1) := by decide +kernel
theorem dX2_mostPlaces_6 : decode cX2_mostPlaces 6 = .ok (.aload_n 0, 1) := by decide +kernel
theorem dX2_mostPlaces_7 : decode cX2_mostPlaces 7 = .ok (.getfield 24, 3) := by decide +kernel
theorem dX2_mostPlaces_10 : decode cX2_mostPlaces 10 = .ok (.ishl, 1) := by decide +kernel
theorem dX2_mostPlaces_11 : decode cX2_mostPlaces 11 = .ok (.if_icmp .ge 45, 3) := by decide +kernel
theorem dX2_mostPlaces_14 : decode cX2_mostPlaces 14 = .ok (.iload_n 3, 1) := by decide +kernel
theorem dX2_mostPlaces_15 : decode cX2_mostPlaces 15 = .ok (.invokestatic 35, 3) := by decide +kernel
theorem dX2_mostPlaces_18 : decode cX2_mostPlaces 18 = .ok (.iload_n 2, 1) := by decide +kernel
theorem dX2_mostPlaces_19 : decode cX2_mostPlaces 19 = .ok (.invokestatic 35, 3) := by decide +kernel
theorem dX2_mostPlaces_22 : decode cX2_mostPlaces 22 = .ok (.if_icmp .le 7, 3) := by decide +kernel
theorem dX2_mostPlaces_25 : decode cX2_mostPlaces 25 = .ok (.iconst 1, 1) := by decide +kernel
theorem dX2_mostPlaces_26 : decode cX2_mostPlaces 26 = .ok (.goto 4, 3) := by decide +kernel
theorem dX2_mostPlaces_29 : decode cX2_mostPlaces 29 = .ok (.iconst 0, 1) := by decide +kernel
theorem dX2_mostPlaces_30 : decode cX2_mostPlaces 30 = .ok (.istore 4, 2) := by decide +kernel
theorem dX2_mostPlaces_32 : decode cX2_mostPlaces 32 = .ok (.iload 4, 2) := by decide +kernel
theorem dX2_mostPlaces_34 : decode cX2_mostPlaces 34 = .ok (.ifCond .eq 16, 3) := by decide +kernel
theorem dX2_mostPlaces_37 : decode cX2_mostPlaces 37 = .ok (.aload_n 0, 1) := by decide +kernel
theorem dX2_mostPlaces_38 : decode cX2_mostPlaces 38 = .ok (.aload_n 1, 1) := by decide +kernel
theorem dX2_mostPlaces_39 : decode cX2_mostPlaces 39 = .ok (.iload_n 3, 1) := by decide +kernel
theorem dX2_mostPlaces_40 : decode cX2_mostPlaces 40 = .ok (.invokevirtual 41, 3) := by decide +kernel
theorem dX2_mostPlaces_43 : decode cX2_mostPlaces 43 = .ok (.bipush (-9), 2) := by decide +kernel
theorem dX2_mostPlaces_45 : decode cX2_mostPlaces 45 = .ok (.if_icmp .eq 5, 3) := by decide +kernel
theorem dX2_mostPlaces_48 : decode cX2_mostPlaces 48 = .ok (.iload_n 3, 1) := by decide +kernel
theorem dX2_mostPlaces_49 : decode cX2_mostPlaces 49 = .ok (.istore_n 2, 1) := by decide +kernel
theorem dX2_mostPlaces_50 : decode cX2_mostPlaces 50 = .ok (.iinc 3 1, 3) := by decide +kernel
theorem dX2_mostPlaces_53 : decode cX2_mostPlaces 53 = .ok (.goto (-49), 3) := by decide +kernel
theorem dX2_mostPlaces_56 : decode cX2_mostPlaces 56 = .ok (.iload_n 2, 1) := by decide +kernel
theorem dX2_mostPlaces_57 : decode cX2_mostPlaces 57 = .ok (.ireturn, 1) := by decide +kernel
set_option maxRecDepth 20000 in
theorem ggX2_choose_X2_compare : GoodIn wsX2_choose wsX2_compare := goodIn_r _ [12, 13, 14, 6, 35, 36, 37, 38, 39, 40] (by decide +kernel) (by decide +kernel)
set_option maxRecDepth 20000 in
theorem gX2_choose_X2_compare : GoodIn wsX2_choose (wsV RX2 45 RX2 yX2_compare wsX2_compare) := goodIn_app (goodIn_of _ (by decide +kernel)) ggX2_choose_X2_compare
set_option maxRecDepth 20000 in
theorem ggX2_choose_X2_choose : GoodIn wsX2_choose wsX2_choose := goodIn_r _ [0, 1, 2, 3, 4, 5, 6, 7, 8, 9, 10, 11, 12, 13, 14, 15, 16, 17, 18, 19, 20, 21, 22, 23, 24, 25, 26, 27, 28, 29, 30, 31, 32, 33, 34, 35, 36, 37, 38, 39, 40, 41, 42, 43, 44, 45] (by decide +kernel) (by decide +kernel)
set_option maxRecDepth 20000 in
theorem gX2_choose_X2_choose : GoodIn wsX2_choose (va_wsS RX2 31 yX2_choose wsX2_choose) := goodIn_app (goodIn_of _ (by decide +kernel)) ggX2_choose_X2_choose
set_option maxRecDepth 20000 in
theorem ggX2_choose_X1_fits : GoodIn wsX2_choose wsX1_fits := goodIn_r _ [21, 22, 23, 24, 20, 25, 26, 41, 42, 43, 44, 45] (by decide +kernel) (by decide +kernel)
set_option maxRecDepth 20000 in
theorem gX2_choose_X1_fits : GoodIn wsX2_choose (wsV RX2 57 RX1 yX1_fits wsX1_fits) := goodIn_app (goodIn_of _ (by decide +kernel)) ggX2_choose_X1_fits
set_option maxRecDepth 20000 in
theorem ggX2_choose_X1_take : GoodIn wsX2_choose wsX1_take := goodIn_r _ [30, 22, 23, 24, 20, 25, 26, 41, 42, 43, 44, 45] (by decide +kernel) (by decide +kernel)
set_option maxRecDepth 20000 in
theorem gX2_choose_X1_take : GoodIn wsX2_choose (wsV RX2 61 RX1 yX1_take wsX1_take) := goodIn_app (goodIn_of _ (by decide +kernel)) ggX2_choose_X1_take
set_option maxRecDepth 20000 in
theorem ggX2_choose_X1_putBack : GoodIn wsX2_choose wsX1_putBack := goodIn_r _ [34, 22, 23, 24, 20, 25, 26, 41, 42, 43, 44, 45] (by decide +kernel) (by decide +kernel)
set_option maxRecDepth 20000 in
theorem gX2_choose_X1_putBack : GoodIn wsX2_choose (wsV RX2 68 RX1 yX1_putBack wsX1_putBack) := goodIn_app (goodIn_of _ (by decide +kernel)) ggX2_choose_X1_putBack
theorem dX2_choose_0 : decode cX2_choose 0 = .ok (.iload_n 2, 1) := by decide +kernel
theorem dX2_choose_1 : decode cX2_choose 1 = .ok (.aload_n 0, 1) := by decide +kernel
theorem dX2_choose_2 : decode cX2_choose 2 = .ok (.getfield 24, 3) := by decide +kernel
theorem dX2_choose_5 : decode cX2_choose 5 = .ok (.if_icmp .ge 8, 3) := by decide +kernel
theorem dX2_choose_8 : decode cX2_choose 8 = .ok (.iload_n 2, 1) := by decide +kernel
theorem dX2_choose_9 : decode cX2_choose 9 = .ok (.iconst 3, 1) := by decide +kernel
theorem dX2_choose_10 : decode cX2_choose 10 = .ok (.if_icmp .lt 10, 3) := by decide +kernel
theorem dX2_choose_13 : decode cX2_choose 13 = .ok (.aload_n 0, 1) := by decide +kernel
theorem dX2_choose_14 : decode cX2_choose 14 = .ok (.iload 4, 2) := by decide +kernel
theorem dX2_choose_16 : decode cX2_choose 16 = .ok (.invokevirtual 45, 3) := by decide +kernel
theorem dX2_choose_19 : decode cX2_choose 19 = .ok (.return_, 1) := by decide +kernel
theorem dX2_choose_20 : decode cX2_choose 20 = .ok (.iload_n 3, 1) := by decide +kernel
theorem dX2_choose_21 : decode cX2_choose 21 = .ok (.iload_n 2, 1) := by decide +kernel
theorem dX2_choose_22 : decode cX2_choose 22 = .ok (.ishr, 1) := by decide +kernel
theorem dX2_choose_23 : decode cX2_choose 23 = .ok (.iconst 1, 1) := by decide +kernel
theorem dX2_choose_24 : decode cX2_choose 24 = .ok (.iand, 1) := by decide +kernel
theorem dX2_choose_25 : decode cX2_choose 25 = .ok (.ifCond .ne 15, 3) := by decide +kernel
theorem dX2_choose_28 : decode cX2_choose 28 = .ok (.aload_n 0, 1) := by decide +kernel
theorem dX2_choose_29 : decode cX2_choose 29 = .ok (.aload_n 1, 1) := by decide +kernel
theorem dX2_choose_30 : decode cX2_choose 30 = .ok (.iload_n 2, 1) := by decide +kernel
theorem dX2_choose_31 : decode cX2_choose 31 = .ok (.iconst 1, 1) := by decide +kernel
theorem dX2_choose_32 : decode cX2_choose 32 = .ok (.iadd, 1) := by decide +kernel
theorem dX2_choose_33 : decode cX2_choose 33 = .ok (.iload_n 3, 1) := by decide +kernel
theorem dX2_choose_34 : decode cX2_choose 34 = .ok (.iload 4, 2) := by decide +kernel
theorem dX2_choose_36 : decode cX2_choose 36 = .ok (.invokestatic 31, 3) := by decide +kernel
theorem dX2_choose_39 : decode cX2_choose 39 = .ok (.return_, 1) := by decide +kernel
theorem dX2_choose_40 : decode cX2_choose 40 = .ok (.iconst 0, 1) := by decide +kernel
theorem dX2_choose_41 : decode cX2_choose 41 = .ok (.istore 5, 2) := by decide +kernel
theorem dX2_choose_43 : decode cX2_choose 43 = .ok (.iload 5, 2) := by decide +kernel
theorem dX2_choose_45 : decode cX2_choose 45 = .ok (.aload_n 1, 1) := by decide +kernel
theorem dX2_choose_46 : decode cX2_choose 46 = .ok (.getfield 49, 3) := by decide +kernel
theorem dX2_choose_49 : decode cX2_choose 49 = .ok (.if_icmp .ge 88, 3) := by decide +kernel
theorem dX2_choose_52 : decode cX2_choose 52 = .ok (.aload_n 1, 1) := by decide +kernel
theorem dX2_choose_53 : decode cX2_choose 53 = .ok (.getfield 54, 3) := by decide +kernel
theorem dX2_choose_56 : decode cX2_choose 56 = .ok (.iload 5, 2) := by decide +kernel
theorem dX2_choose_58 : decode cX2_choose 58 = .ok (.iaload, 1) := by decide +kernel
theorem dX2_choose_59 : decode cX2_choose 59 = .ok (.aload_n 0, 1) := by decide +kernel
theorem dX2_choose_60 : decode cX2_choose 60 = .ok (.getfield 9, 3) := by decide +kernel
theorem dX2_choose_63 : decode cX2_choose 63 = .ok (.iload_n 2, 1) := by decide +kernel
theorem dX2_choose_64 : decode cX2_choose 64 = .ok (.iaload, 1) := by decide +kernel
theorem dX2_choose_65 : decode cX2_choose 65 = .ok (.if_icmp .ne 66, 3) := by decide +kernel
theorem dX2_choose_68 : decode cX2_choose 68 = .ok (.aload_n 1, 1) := by decide +kernel
theorem dX2_choose_69 : decode cX2_choose 69 = .ok (.iload 5, 2) := by decide +kernel
theorem dX2_choose_71 : decode cX2_choose 71 = .ok (.aload_n 0, 1) := by decide +kernel
theorem dX2_choose_72 : decode cX2_choose 72 = .ok (.getfield 21, 3) := by decide +kernel
theorem dX2_choose_75 : decode cX2_choose 75 = .ok (.invokevirtual 57, 3) := by decide +kernel
theorem dX2_choose_78 : decode cX2_choose 78 = .ok (.ifCond .ne 6, 3) := by decide +kernel
theorem dX2_choose_81 : decode cX2_choose 81 = .ok (.goto 50, 3) := by decide +kernel
theorem dX2_choose_84 : decode cX2_choose 84 = .ok (.aload_n 0, 1) := by decide +kernel
theorem dX2_choose_85 : decode cX2_choose 85 = .ok (.getfield 15, 3) := by decide +kernel
theorem dX2_choose_88 : decode cX2_choose 88 = .ok (.iload_n 2, 1) := by decide +kernel
theorem dX2_choose_89 : decode cX2_choose 89 = .ok (.iload 5, 2) := by decide +kernel
theorem dX2_choose_91 : decode cX2_choose 91 = .ok (.iastore, 1) := by decide +kernel
theorem dX2_choose_92 : decode cX2_choose 92 = .ok (.aload_n 1, 1) := by decide +kernel
theorem dX2_choose_93 : decode cX2_choose 93 = .ok (.iload 5, 2) := by decide +kernel
theorem dX2_choose_95 : decode cX2_choose 95 = .ok (.aload_n 0, 1) := by decide +kernel
theorem dX2_choose_96 : decode cX2_choose 96 = .ok (.getfield 21, 3) := by decide +kernel
theorem dX2_choose_99 : decode cX2_choose 99 = .ok (.invokevirtual 61, 3) := by decide +kernel
theorem dX2_choose_102 : decode cX2_choose 102 = .ok (.aload_n 0, 1) := by decide +kernel
theorem dX2_choose_103 : decode cX2_choose 103 = .ok (.aload_n 1, 1) := by decide +kernel
theorem dX2_choose_104 : decode cX2_choose 104 = .ok (.iload_n 2, 1) := by decide +kernel
theorem dX2_choose_105 : decode cX2_choose 105 = .ok (.iconst 1, 1) := by decide +kernel
theorem dX2_choose_106 : decode cX2_choose 106 = .ok (.iadd, 1) := by decide +kernel
theorem dX2_choose_107 : decode cX2_choose 107 = .ok (.iload_n 3, 1) := by decide +kernel
theorem dX2_choose_108 : decode cX2_choose 108 = .ok (.iload 4, 2) := by decide +kernel
theorem dX2_choose_110 : decode cX2_choose 110 = .ok (.aload_n 1, 1) := by decide +kernel
theorem dX2_choose_111 : decode cX2_choose 111 = .ok (.getfield 65, 3) := by decide +kernel
theorem dX2_choose_114 : decode cX2_choose 114 = .ok (.iload 5, 2) := by decide +kernel
theorem dX2_choose_116 : decode cX2_choose 116 = .ok (.iaload, 1) := by decide +kernel
theorem dX2_choose_117 : decode cX2_choose 117 = .ok (.iadd, 1) := by decide +kernel
theorem dX2_choose_118 : decode cX2_choose 118 = .ok (.invokestatic 31, 3) := by decide +kernel
theorem dX2_choose_121 : decode cX2_choose 121 = .ok (.aload_n 1, 1) := by decide +kernel
theorem dX2_choose_122 : decode cX2_choose 122 = .ok (.iload 5, 2) := by decide +kernel
theorem dX2_choose_124 : decode cX2_choose 124 = .ok (.aload_n 0, 1) := by decide +kernel
theorem dX2_choose_125 : decode cX2_choose 125 = .ok (.getfield 21, 3) := by decide +kernel
theorem dX2_choose_128 : decode cX2_choose 128 = .ok (.invokevirtual 68, 3) := by decide +kernel
theorem dX2_choose_131 : decode cX2_choose 131 = .ok (.iinc 5 1, 3) := by decide +kernel
theorem dX2_choose_134 : decode cX2_choose 134 = .ok (.goto (-91), 3) := by decide +kernel
theorem dX2_choose_137 : decode cX2_choose 137 = .ok (.return_, 1) := by decide +kernel
theorem dX2_compare_0 : decode cX2_compare 0 = .ok (.aload_n 0, 1) := by decide +kernel
theorem dX2_compare_1 : decode cX2_compare 1 = .ok (.getfield 28, 3) := by decide +kernel
theorem dX2_compare_4 : decode cX2_compare 4 = .ok (.bipush (-9), 2) := by decide +kernel
theorem dX2_compare_6 : decode cX2_compare 6 = .ok (.if_icmp .eq 12, 3) := by decide +kernel
theorem dX2_compare_9 : decode cX2_compare 9 = .ok (.iload_n 1, 1) := by decide +kernel
theorem dX2_compare_10 : decode cX2_compare 10 = .ok (.aload_n 0, 1) := by decide +kernel
theorem dX2_compare_11 : decode cX2_compare 11 = .ok (.getfield 28, 3) := by decide +kernel
theorem dX2_compare_14 : decode cX2_compare 14 = .ok (.if_icmp .lt 4, 3) := by decide +kernel
theorem dX2_compare_17 : decode cX2_compare 17 = .ok (.return_, 1) := by decide +kernel
theorem dX2_compare_18 : decode cX2_compare 18 = .ok (.aload_n 0, 1) := by decide +kernel
theorem dX2_compare_19 : decode cX2_compare 19 = .ok (.iload_n 1, 1) := by decide +kernel
theorem dX2_compare_20 : decode cX2_compare 20 = .ok (.putfield 28, 3) := by decide +kernel
theorem dX2_compare_23 : decode cX2_compare 23 = .ok (.iconst 0, 1) := by decide +kernel
theorem dX2_compare_24 : decode cX2_compare 24 = .ok (.istore_n 2, 1) := by decide +kernel
theorem dX2_compare_25 : decode cX2_compare 25 = .ok (.iload_n 2, 1) := by decide +kernel
theorem dX2_compare_26 : decode cX2_compare 26 = .ok (.iconst 3, 1) := by decide +kernel
theorem dX2_compare_27 : decode cX2_compare 27 = .ok (.if_icmp .ge 21, 3) := by decide +kernel
theorem dX2_compare_30 : decode cX2_compare 30 = .ok (.aload_n 0, 1) := by decide +kernel
theorem dX2_compare_31 : decode cX2_compare 31 = .ok (.getfield 18, 3) := by decide +kernel
theorem dX2_compare_34 : decode cX2_compare 34 = .ok (.iload_n 2, 1) := by decide +kernel
theorem dX2_compare_35 : decode cX2_compare 35 = .ok (.aload_n 0, 1) := by decide +kernel
theorem dX2_compare_36 : decode cX2_compare 36 = .ok (.getfield 15, 3) := by decide +kernel
theorem dX2_compare_39 : decode cX2_compare 39 = .ok (.iload_n 2, 1) := by decide +kernel
theorem dX2_compare_40 : decode cX2_compare 40 = .ok (.iaload, 1) := by decide +kernel
theorem dX2_compare_41 : decode cX2_compare 41 = .ok (.iastore, 1) := by decide +kernel
theorem dX2_compare_42 : decode cX2_compare 42 = .ok (.iinc 2 1, 3) := by decide +kernel
theorem dX2_compare_45 : decode cX2_compare 45 = .ok (.goto (-20), 3) := by decide +kernel
theorem dX2_compare_48 : decode cX2_compare 48 = .ok (.return_, 1) := by decide +kernel
