set_option maxRecDepth 20000 in
theorem gX6_burns_X3_hasHouse : GoodIn wsX6_burns (wsV RX6 98 RX3 yX3_hasHouse wsX3_hasHouse) := goodIn_app (goodIn_of _ (by decide +kernel)) ggX6_burns_X3_hasHouse
set_option maxRecDepth 20000 in
theorem ggX6_burns_X3_allStock : GoodIn wsX6_burns wsX3_allStock := goodIn_r _ [11, 12, 13, 14, 5, 15, 16, 32, 33, 34, 35, 36, 37, 38, 39] (by decide +kernel) (by decide +kernel)
set_option maxRecDepth 20000 in
theorem gX6_burns_X3_allStock : GoodIn wsX6_burns (wsV RX6 106 RX3 yX3_allStock wsX3_allStock) := goodIn_app (goodIn_of _ (by decide +kernel)) ggX6_burns_X3_allStock
set_option maxRecDepth 20000 in
theorem ggX6_burns_X3_stock : GoodIn wsX6_burns wsX3_stock := goodIn_r _ [15, 16, 32, 33, 34, 35, 36, 37, 38, 39] (by decide +kernel) (by decide +kernel)
set_option maxRecDepth 20000 in
theorem gX6_burns_X3_stock : GoodIn wsX6_burns (wsV RX6 102 RX3 yX3_stock wsX3_stock) := goodIn_app (goodIn_of _ (by decide +kernel)) ggX6_burns_X3_stock
set_option maxRecDepth 20000 in
theorem ggX6_burns_X3_change : GoodIn wsX6_burns wsX3_change := goodIn_r _ [21, 16, 32, 33, 34, 35, 36, 37, 38, 39] (by decide +kernel) (by decide +kernel)
set_option maxRecDepth 20000 in
theorem gX6_burns_X3_change : GoodIn wsX6_burns (wsV RX6 132 RX3 yX3_change wsX3_change) := goodIn_app (goodIn_of _ (by decide +kernel)) ggX6_burns_X3_change
theorem dX6_burns_0 : decode cX6_burns 0 = .ok (.aload_n 0, 1) := by decide +kernel
theorem dX6_burns_1 : decode cX6_burns 1 = .ok (.getfield 33, 3) := by decide +kernel
theorem dX6_burns_4 : decode cX6_burns 4 = .ok (.iload_n 1, 1) := by decide +kernel
theorem dX6_burns_5 : decode cX6_burns 5 = .ok (.invokevirtual 98, 3) := by decide +kernel
theorem dX6_burns_8 : decode cX6_burns 8 = .ok (.ifCond .ne 5, 3) := by decide +kernel
theorem dX6_burns_11 : decode cX6_burns 11 = .ok (.iconst (-1), 1) := by decide +kernel
theorem dX6_burns_12 : decode cX6_burns 12 = .ok (.ireturn, 1) := by decide +kernel
theorem dX6_burns_13 : decode cX6_burns 13 = .ok (.aload_n 0, 1) := by decide +kernel
theorem dX6_burns_14 : decode cX6_burns 14 = .ok (.getfield 33, 3) := by decide +kernel
theorem dX6_burns_17 : decode cX6_burns 17 = .ok (.iload_n 1, 1) := by decide +kernel
theorem dX6_burns_18 : decode cX6_burns 18 = .ok (.invokevirtual 106, 3) := by decide +kernel
theorem dX6_burns_21 : decode cX6_burns 21 = .ok (.istore_n 2, 1) := by decide +kernel
theorem dX6_burns_22 : decode cX6_burns 22 = .ok (.iconst 0, 1) := by decide +kernel
theorem dX6_burns_23 : decode cX6_burns 23 = .ok (.istore_n 3, 1) := by decide +kernel
theorem dX6_burns_24 : decode cX6_burns 24 = .ok (.iload_n 3, 1) := by decide +kernel
theorem dX6_burns_25 : decode cX6_burns 25 = .ok (.iconst 5, 1) := by decide +kernel
theorem dX6_burns_26 : decode cX6_burns 26 = .ok (.if_icmp .ge 28, 3) := by decide +kernel
theorem dX6_burns_29 : decode cX6_burns 29 = .ok (.aload_n 0, 1) := by decide +kernel
theorem dX6_burns_30 : decode cX6_burns 30 = .ok (.getfield 33, 3) := by decide +kernel
theorem dX6_burns_33 : decode cX6_burns 33 = .ok (.iload_n 1, 1) := by decide +kernel
theorem dX6_burns_34 : decode cX6_burns 34 = .ok (.iload_n 3, 1) := by decide +kernel
theorem dX6_burns_35 : decode cX6_burns 35 = .ok (.aload_n 0, 1) := by decide +kernel
theorem dX6_burns_36 : decode cX6_burns 36 = .ok (.getfield 33, 3) := by decide +kernel
theorem dX6_burns_39 : decode cX6_burns 39 = .ok (.iload_n 1, 1) := by decide +kernel
theorem dX6_burns_40 : decode cX6_burns 40 = .ok (.iload_n 3, 1) := by decide +kernel
theorem dX6_burns_41 : decode cX6_burns 41 = .ok (.invokevirtual 102, 3) := by decide +kernel
theorem dX6_burns_44 : decode cX6_burns 44 = .ok (.ineg, 1) := by decide +kernel
theorem dX6_burns_45 : decode cX6_burns 45 = .ok (.invokevirtual 132, 3) := by decide +kernel
theorem dX6_burns_48 : decode cX6_burns 48 = .ok (.iinc 3 1, 3) := by decide +kernel
theorem dX6_burns_51 : decode cX6_burns 51 = .ok (.goto (-27), 3) := by decide +kernel
theorem dX6_burns_54 : decode cX6_burns 54 = .ok (.iload_n 2, 1) := by decide +kernel
theorem dX6_burns_55 : decode cX6_burns 55 = .ok (.ireturn, 1) := by decide +kernel
theorem dX6_plume_0 : decode cX6_plume 0 = .ok (.iload_n 1, 1) := by decide +kernel
theorem dX6_plume_1 : decode cX6_plume 1 = .ok (.ifCond .lt 23, 3) := by decide +kernel
theorem dX6_plume_4 : decode cX6_plume 4 = .ok (.iload_n 1, 1) := by decide +kernel
theorem dX6_plume_5 : decode cX6_plume 5 = .ok (.aload_n 0, 1) := by decide +kernel
theorem dX6_plume_6 : decode cX6_plume 6 = .ok (.getfield 33, 3) := by decide +kernel
theorem dX6_plume_9 : decode cX6_plume 9 = .ok (.getfield 129, 3) := by decide +kernel
theorem dX6_plume_12 : decode cX6_plume 12 = .ok (.if_icmp .ge 12, 3) := by decide +kernel
theorem dX6_plume_15 : decode cX6_plume 15 = .ok (.iload_n 2, 1) := by decide +kernel
theorem dX6_plume_16 : decode cX6_plume 16 = .ok (.ifCond .lt 8, 3) := by decide +kernel
theorem dX6_plume_19 : decode cX6_plume 19 = .ok (.iload_n 2, 1) := by decide +kernel
theorem dX6_plume_20 : decode cX6_plume 20 = .ok (.iconst 1, 1) := by decide +kernel
theorem dX6_plume_21 : decode cX6_plume 21 = .ok (.if_icmp .le 5, 3) := by decide +kernel
theorem dX6_plume_24 : decode cX6_plume 24 = .ok (.iconst (-1), 1) := by decide +kernel
theorem dX6_plume_25 : decode cX6_plume 25 = .ok (.ireturn, 1) := by decide +kernel
theorem dX6_plume_26 : decode cX6_plume 26 = .ok (.iload_n 2, 1) := by decide +kernel
theorem dX6_plume_27 : decode cX6_plume 27 = .ok (.ifCond .ne 15, 3) := by decide +kernel
theorem dX6_plume_30 : decode cX6_plume 30 = .ok (.aload_n 0, 1) := by decide +kernel
theorem dX6_plume_31 : decode cX6_plume 31 = .ok (.getfield 33, 3) := by decide +kernel
theorem dX6_plume_34 : decode cX6_plume 34 = .ok (.getfield 140, 3) := by decide +kernel
theorem dX6_plume_37 : decode cX6_plume 37 = .ok (.iload_n 1, 1) := by decide +kernel
theorem dX6_plume_38 : decode cX6_plume 38 = .ok (.iaload, 1) := by decide +kernel
theorem dX6_plume_39 : decode cX6_plume 39 = .ok (.goto 20, 3) := by decide +kernel
theorem dX6_plume_42 : decode cX6_plume 42 = .ok (.aload_n 0, 1) := by decide +kernel
theorem dX6_plume_43 : decode cX6_plume 43 = .ok (.getfield 26, 3) := by decide +kernel
theorem dX6_plume_46 : decode cX6_plume 46 = .ok (.getfield 116, 3) := by decide +kernel
theorem dX6_plume_49 : decode cX6_plume 49 = .ok (.aload_n 0, 1) := by decide +kernel
theorem dX6_plume_50 : decode cX6_plume 50 = .ok (.getfield 33, 3) := by decide +kernel
theorem dX6_plume_53 : decode cX6_plume 53 = .ok (.getfield 143, 3) := by decide +kernel
theorem dX6_plume_56 : decode cX6_plume 56 = .ok (.iload_n 1, 1) := by decide +kernel
theorem dX6_plume_57 : decode cX6_plume 57 = .ok (.iaload, 1) := by decide +kernel
theorem dX6_plume_58 : decode cX6_plume 58 = .ok (.iaload, 1) := by decide +kernel
theorem dX6_plume_59 : decode cX6_plume 59 = .ok (.ireturn, 1) := by decide +kernel
theorem dX6_fog_0 : decode cX6_fog 0 = .ok (.iload_n 1, 1) := by decide +kernel
theorem dX6_fog_1 : decode cX6_fog 1 = .ok (.ifCond .lt 8, 3) := by decide +kernel
theorem dX6_fog_4 : decode cX6_fog 4 = .ok (.iload_n 1, 1) := by decide +kernel
theorem dX6_fog_5 : decode cX6_fog 5 = .ok (.iconst 5, 1) := by decide +kernel
theorem dX6_fog_6 : decode cX6_fog 6 = .ok (.if_icmp .le 5, 3) := by decide +kernel
theorem dX6_fog_9 : decode cX6_fog 9 = .ok (.iconst (-1), 1) := by decide +kernel
theorem dX6_fog_10 : decode cX6_fog 10 = .ok (.ireturn, 1) := by decide +kernel
theorem dX6_fog_11 : decode cX6_fog 11 = .ok (.aload_n 0, 1) := by decide +kernel
theorem dX6_fog_12 : decode cX6_fog 12 = .ok (.getfield 33, 3) := by decide +kernel
theorem dX6_fog_15 : decode cX6_fog 15 = .ok (.getfield 151, 3) := by decide +kernel
theorem dX6_fog_18 : decode cX6_fog 18 = .ok (.istore_n 2, 1) := by decide +kernel
theorem dX6_fog_19 : decode cX6_fog 19 = .ok (.aload_n 0, 1) := by decide +kernel
theorem dX6_fog_20 : decode cX6_fog 20 = .ok (.getfield 33, 3) := by decide +kernel
theorem dX6_fog_23 : decode cX6_fog 23 = .ok (.iload_n 1, 1) := by decide +kernel
theorem dX6_fog_24 : decode cX6_fog 24 = .ok (.putfield 151, 3) := by decide +kernel
theorem dX6_fog_27 : decode cX6_fog 27 = .ok (.iload_n 2, 1) := by decide +kernel
theorem dX6_fog_28 : decode cX6_fog 28 = .ok (.ireturn, 1) := by decide +kernel
set_option maxRecDepth 20000 in
theorem ggX6_says_X3_hasHouse : GoodIn wsX6_says wsX3_hasHouse := goodIn_r _ [11, 12, 88, 89, 90, 91, 92, 93, 94, 95] (by decide +kernel) (by decide +kernel)
set_option maxRecDepth 20000 in
theorem gX6_says_X3_hasHouse : GoodIn wsX6_says (wsV RX6 98 RX3 yX3_hasHouse wsX3_hasHouse) := goodIn_app (goodIn_of _ (by decide +kernel)) ggX6_says_X3_hasHouse
set_option maxRecDepth 20000 in
theorem ggX6_says_X6_isRow : GoodIn wsX6_says wsX6_isRow := goodIn_r _ [16, 17, 18, 15, 19] (by decide +kernel) (by decide +kernel)
set_option maxRecDepth 20000 in
theorem gX6_says_X6_isRow : GoodIn wsX6_says (va_wsS RX6 154 yX6_isRow wsX6_isRow) := goodIn_app (goodIn_of _ (by decide +kernel)) ggX6_says_X6_isRow
set_option maxRecDepth 20000 in
theorem ggX6_says_X2_hear : GoodIn wsX6_says wsX2_hear := goodIn_r _ [24, 25, 26, 82, 83, 84, 85, 86, 87] (by decide +kernel) (by decide +kernel)
set_option maxRecDepth 20000 in
theorem gX6_says_X2_hear : GoodIn wsX6_says (wsV RX6 158 RX2 yX2_hear wsX2_hear) := goodIn_app (goodIn_of _ (by decide +kernel)) ggX6_says_X2_hear
set_option maxRecDepth 20000 in
theorem ggX6_says_X3_fill : GoodIn wsX6_says wsX3_fill := goodIn_r _ [30, 31, 32, 33, 10, 34, 35, 88, 89, 90, 91, 92, 93, 94, 95] (by decide +kernel) (by decide +kernel)
set_option maxRecDepth 20000 in
theorem gX6_says_X3_fill : GoodIn wsX6_says (wsV RX6 164 RX3 yX3_fill wsX3_fill) := goodIn_app (goodIn_of _ (by decide +kernel)) ggX6_says_X3_fill
set_option maxRecDepth 20000 in
theorem ggX6_says_X2_fewestUnits : GoodIn wsX6_says wsX2_fewestUnits := goodIn_r _ [39, 40, 41, 42, 23, 43, 26, 44, 45, 25, 46, 47, 48, 49, 50, 51, 52, 53, 54, 55, 56, 57, 58, 59, 60, 61, 62, 63, 64, 65, 66, 67, 68, 69, 70, 71, 82, 83, 84, 85, 86, 87, 96, 97, 98, 99, 100] (by decide +kernel) (by decide +kernel)
set_option maxRecDepth 20000 in
theorem gX6_says_X2_fewestUnits : GoodIn wsX6_says (wsV RX6 168 RX2 yX2_fewestUnits wsX2_fewestUnits) := goodIn_app (goodIn_of _ (by decide +kernel)) ggX6_says_X2_fewestUnits
theorem dX6_says_0 : decode cX6_says 0 = .ok (.aload_n 0, 1) := by decide +kernel
theorem dX6_says_1 : decode cX6_says 1 = .ok (.getfield 33, 3) := by decide +kernel
theorem dX6_says_4 : decode cX6_says 4 = .ok (.iload_n 1, 1) := by decide +kernel
theorem dX6_says_5 : decode cX6_says 5 = .ok (.invokevirtual 98, 3) := by decide +kernel
theorem dX6_says_8 : decode cX6_says 8 = .ok (.ifCond .eq 25, 3) := by decide +kernel
theorem dX6_says_11 : decode cX6_says 11 = .ok (.iload_n 2, 1) := by decide +kernel
theorem dX6_says_12 : decode cX6_says 12 = .ok (.iload_n 3, 1) := by decide +kernel
theorem dX6_says_13 : decode cX6_says 13 = .ok (.iload 4, 2) := by decide +kernel
theorem dX6_says_15 : decode cX6_says 15 = .ok (.invokestatic 154, 3) := by decide +kernel
theorem dX6_says_18 : decode cX6_says 18 = .ok (.ifCond .eq 15, 3) := by decide +kernel
theorem dX6_says_21 : decode cX6_says 21 = .ok (.iload 5, 2) := by decide +kernel
theorem dX6_says_23 : decode cX6_says 23 = .ok (.iconst (-1), 1) := by decide +kernel
theorem dX6_says_24 : decode cX6_says 24 = .ok (.if_icmp .lt 9, 3) := by decide +kernel
theorem dX6_says_27 : decode cX6_says 27 = .ok (.iload 5, 2) := by decide +kernel
theorem dX6_says_29 : decode cX6_says 29 = .ok (.iconst 3, 1) := by decide +kernel
theorem dX6_says_30 : decode cX6_says 30 = .ok (.if_icmp .lt 5, 3) := by decide +kernel
theorem dX6_says_33 : decode cX6_says 33 = .ok (.iconst (-1), 1) := by decide +kernel
theorem dX6_says_34 : decode cX6_says 34 = .ok (.ireturn, 1) := by decide +kernel
theorem dX6_says_35 : decode cX6_says 35 = .ok (.aload_n 0, 1) := by decide +kernel
theorem dX6_says_36 : decode cX6_says 36 = .ok (.getfield 46, 3) := by decide +kernel
theorem dX6_says_39 : decode cX6_says 39 = .ok (.iload_n 2, 1) := by decide +kernel
theorem dX6_says_40 : decode cX6_says 40 = .ok (.iload_n 3, 1) := by decide +kernel
theorem dX6_says_41 : decode cX6_says 41 = .ok (.iload 4, 2) := by decide +kernel
theorem dX6_says_43 : decode cX6_says 43 = .ok (.invokevirtual 158, 3) := by decide +kernel
theorem dX6_says_46 : decode cX6_says 46 = .ok (.aload_n 0, 1) := by decide +kernel
theorem dX6_says_47 : decode cX6_says 47 = .ok (.getfield 33, 3) := by decide +kernel
theorem dX6_says_50 : decode cX6_says 50 = .ok (.iload_n 1, 1) := by decide +kernel
theorem dX6_says_51 : decode cX6_says 51 = .ok (.aload_n 0, 1) := by decide +kernel
theorem dX6_says_52 : decode cX6_says 52 = .ok (.getfield 46, 3) := by decide +kernel
theorem dX6_says_55 : decode cX6_says 55 = .ok (.getfield 161, 3) := by decide +kernel
theorem dX6_says_58 : decode cX6_says 58 = .ok (.invokevirtual 164, 3) := by decide +kernel
theorem dX6_says_61 : decode cX6_says 61 = .ok (.aload_n 0, 1) := by decide +kernel
theorem dX6_says_62 : decode cX6_says 62 = .ok (.getfield 46, 3) := by decide +kernel
theorem dX6_says_65 : decode cX6_says 65 = .ok (.aload_n 0, 1) := by decide +kernel
theorem dX6_says_66 : decode cX6_says 66 = .ok (.getfield 26, 3) := by decide +kernel
theorem dX6_says_69 : decode cX6_says 69 = .ok (.bipush 7, 2) := by decide +kernel
theorem dX6_says_71 : decode cX6_says 71 = .ok (.invokevirtual 168, 3) := by decide +kernel
theorem dX6_says_74 : decode cX6_says 74 = .ok (.istore 6, 2) := by decide +kernel
theorem dX6_says_76 : decode cX6_says 76 = .ok (.iload 6, 2) := by decide +kernel
theorem dX6_says_78 : decode cX6_says 78 = .ok (.bipush (-9), 2) := by decide +kernel
theorem dX6_says_80 : decode cX6_says 80 = .ok (.if_icmp .ne 6, 3) := by decide +kernel
theorem dX6_says_83 : decode cX6_says 83 = .ok (.bipush (-9), 2) := by decide +kernel
theorem dX6_says_85 : decode cX6_says 85 = .ok (.ireturn, 1) := by decide +kernel
theorem dX6_says_86 : decode cX6_says 86 = .ok (.iload 5, 2) := by decide +kernel
theorem dX6_says_88 : decode cX6_says 88 = .ok (.ifCond .ge 6, 3) := by decide +kernel
theorem dX6_says_91 : decode cX6_says 91 = .ok (.iload 6, 2) := by decide +kernel
theorem dX6_says_93 : decode cX6_says 93 = .ok (.ireturn, 1) := by decide +kernel
theorem dX6_says_94 : decode cX6_says 94 = .ok (.iload 5, 2) := by decide +kernel
theorem dX6_says_96 : decode cX6_says 96 = .ok (.aload_n 0, 1) := by decide +kernel
theorem dX6_says_97 : decode cX6_says 97 = .ok (.getfield 46, 3) := by decide +kernel
theorem dX6_says_100 : decode cX6_says 100 = .ok (.getfield 172, 3) := by decide +kernel
theorem dX6_says_103 : decode cX6_says 103 = .ok (.if_icmp .ge 16, 3) := by decide +kernel
theorem dX6_says_106 : decode cX6_says 106 = .ok (.aload_n 0, 1) := by decide +kernel
theorem dX6_says_107 : decode cX6_says 107 = .ok (.getfield 46, 3) := by decide +kernel
theorem dX6_says_110 : decode cX6_says 110 = .ok (.getfield 175, 3) := by decide +kernel
theorem dX6_says_113 : decode cX6_says 113 = .ok (.iload 5, 2) := by decide +kernel
theorem dX6_says_115 : decode cX6_says 115 = .ok (.iaload, 1) := by decide +kernel
theorem dX6_says_116 : decode cX6_says 116 = .ok (.goto 5, 3) := by decide +kernel
theorem dX6_says_119 : decode cX6_says 119 = .ok (.bipush (-5), 2) := by decide +kernel
theorem dX6_says_121 : decode cX6_says 121 = .ok (.ireturn, 1) := by decide +kernel
set_option maxRecDepth 20000 in
theorem ggX6_nearest_X3_hasHouse : GoodIn wsX6_nearest wsX3_hasHouse := goodIn_r _ [9, 10, 97, 98, 99, 100, 101, 102, 103, 104] (by decide +kernel) (by decide +kernel)
set_option maxRecDepth 20000 in
theorem gX6_nearest_X3_hasHouse : GoodIn wsX6_nearest (wsV RX6 98 RX3 yX3_hasHouse wsX3_hasHouse) := goodIn_app (goodIn_of _ (by decide +kernel)) ggX6_nearest_X3_hasHouse
set_option maxRecDepth 20000 in
theorem ggX6_nearest_X6_isRow : GoodIn wsX6_nearest wsX6_isRow := goodIn_r _ [14, 15, 16, 13, 17] (by decide +kernel) (by decide +kernel)
set_option maxRecDepth 20000 in
theorem gX6_nearest_X6_isRow : GoodIn wsX6_nearest (va_wsS RX6 154 yX6_isRow wsX6_isRow) := goodIn_app (goodIn_of _ (by decide +kernel)) ggX6_nearest_X6_isRow
set_option maxRecDepth 20000 in
theorem ggX6_nearest_X2_hear : GoodIn wsX6_nearest wsX2_hear := goodIn_r _ [22, 23, 24, 91, 92, 93, 94, 95, 96] (by decide +kernel) (by decide +kernel)
set_option maxRecDepth 20000 in
theorem gX6_nearest_X2_hear : GoodIn wsX6_nearest (wsV RX6 158 RX2 yX2_hear wsX2_hear) := goodIn_app (goodIn_of _ (by decide +kernel)) ggX6_nearest_X2_hear
set_option maxRecDepth 20000 in
theorem ggX6_nearest_X3_fill : GoodIn wsX6_nearest wsX3_fill := goodIn_r _ [28, 29, 30, 31, 8, 32, 33, 97, 98, 99, 100, 101, 102, 103, 104] (by decide +kernel) (by decide +kernel)
set_option maxRecDepth 20000 in
theorem gX6_nearest_X3_fill : GoodIn wsX6_nearest (wsV RX6 164 RX3 yX3_fill wsX3_fill) := goodIn_app (goodIn_of _ (by decide +kernel)) ggX6_nearest_X3_fill
set_option maxRecDepth 20000 in
theorem ggX6_nearest_X2_mostPlaces : GoodIn wsX6_nearest wsX2_mostPlaces := goodIn_r _ [37, 24, 38, 39, 40, 41, 42, 43, 44, 45, 46, 47, 21, 48, 49, 50, 51, 52, 53, 54, 23, 55, 56, 57, 58, 59, 60, 61, 62, 63, 64, 65, 66, 67, 68, 69, 70, 71, 72, 73, 74, 75, 76, 77, 78, 79, 80, 91, 92, 93, 94, 95, 96, 105, 106, 107, 108, 109] (by decide +kernel) (by decide +kernel)
set_option maxRecDepth 20000 in
theorem gX6_nearest_X2_mostPlaces : GoodIn wsX6_nearest (wsV RX6 178 RX2 yX2_mostPlaces wsX2_mostPlaces) := goodIn_app (goodIn_of _ (by decide +kernel)) ggX6_nearest_X2_mostPlaces
theorem dX6_nearest_0 : decode cX6_nearest 0 = .ok (.aload_n 0, 1) := by decide +kernel
theorem dX6_nearest_1 : decode cX6_nearest 1 = .ok (.getfield 33, 3) := by decide +kernel
theorem dX6_nearest_4 : decode cX6_nearest 4 = .ok (.iload_n 1, 1) := by decide +kernel
theorem dX6_nearest_5 : decode cX6_nearest 5 = .ok (.invokevirtual 98, 3) := by decide +kernel
theorem dX6_nearest_8 : decode cX6_nearest 8 = .ok (.ifCond .eq 13, 3) := by decide +kernel
theorem dX6_nearest_11 : decode cX6_nearest 11 = .ok (.iload_n 2, 1) := by decide +kernel
theorem dX6_nearest_12 : decode cX6_nearest 12 = .ok (.iload_n 3, 1) := by decide +kernel
theorem dX6_nearest_13 : decode cX6_nearest 13 = .ok (.iload 4, 2) := by decide +kernel
theorem dX6_nearest_15 : decode cX6_nearest 15 = .ok (.invokestatic 154, 3) := by decide +kernel
theorem dX6_nearest_18 : decode cX6_nearest 18 = .ok (.ifCond .ne 5, 3) := by decide +kernel
theorem dX6_nearest_21 : decode cX6_nearest 21 = .ok (.iconst (-1), 1) := by decide +kernel
theorem dX6_nearest_22 : decode cX6_nearest 22 = .ok (.ireturn, 1) := by decide +kernel
theorem dX6_nearest_23 : decode cX6_nearest 23 = .ok (.aload_n 0, 1) := by decide +kernel
theorem dX6_nearest_24 : decode cX6_nearest 24 = .ok (.getfield 46, 3) := by decide +kernel
theorem dX6_nearest_27 : decode cX6_nearest 27 = .ok (.iload_n 2, 1) := by decide +kernel
theorem dX6_nearest_28 : decode cX6_nearest 28 = .ok (.iload_n 3, 1) := by decide +kernel
theorem dX6_nearest_29 : decode cX6_nearest 29 = .ok (.iload 4, 2) := by decide +kernel
theorem dX6_nearest_31 : decode cX6_nearest 31 = .ok (.invokevirtual 158, 3) := by decide +kernel
theorem dX6_nearest_34 : decode cX6_nearest 34 = .ok (.aload_n 0, 1) := by decide +kernel
theorem dX6_nearest_35 : decode cX6_nearest 35 = .ok (.getfield 33, 3) := by decide +kernel
theorem dX6_nearest_38 : decode cX6_nearest 38 = .ok (.iload_n 1, 1) := by decide +kernel
theorem dX6_nearest_39 : decode cX6_nearest 39 = .ok (.aload_n 0, 1) := by decide +kernel
theorem dX6_nearest_40 : decode cX6_nearest 40 = .ok (.getfield 46, 3) := by decide +kernel
theorem dX6_nearest_43 : decode cX6_nearest 43 = .ok (.getfield 161, 3) := by decide +kernel
theorem dX6_nearest_46 : decode cX6_nearest 46 = .ok (.invokevirtual 164, 3) := by decide +kernel
theorem dX6_nearest_49 : decode cX6_nearest 49 = .ok (.aload_n 0, 1) := by decide +kernel
theorem dX6_nearest_50 : decode cX6_nearest 50 = .ok (.getfield 46, 3) := by decide +kernel
theorem dX6_nearest_53 : decode cX6_nearest 53 = .ok (.aload_n 0, 1) := by decide +kernel
theorem dX6_nearest_54 : decode cX6_nearest 54 = .ok (.getfield 26, 3) := by decide +kernel
theorem dX6_nearest_57 : decode cX6_nearest 57 = .ok (.invokevirtual 178, 3) := by decide +kernel
theorem dX6_nearest_60 : decode cX6_nearest 60 = .ok (.ireturn, 1) := by decide +kernel
set_option maxRecDepth 20000 in
theorem ggX6_reads_X6_isSmoke : GoodIn wsX6_reads wsX6_isSmoke := goodIn_r _ [5] (by decide +kernel) (by decide +kernel)
set_option maxRecDepth 20000 in
theorem gX6_reads_X6_isSmoke : GoodIn wsX6_reads (va_wsS RX6 182 yX6_isSmoke wsX6_isSmoke) := goodIn_app (goodIn_of _ (by decide +kernel)) ggX6_reads_X6_isSmoke
set_option maxRecDepth 20000 in
theorem ggX6_reads_X3_thousandths : GoodIn wsX6_reads wsX3_thousandths := goodIn_r _ [10, 11, 22, 23, 24, 25, 26, 27, 28, 29] (by decide +kernel) (by decide +kernel)
set_option maxRecDepth 20000 in
theorem gX6_reads_X3_thousandths : GoodIn wsX6_reads (wsV RX6 185 RX3 yX3_thousandths wsX3_thousandths) := goodIn_app (goodIn_of _ (by decide +kernel)) ggX6_reads_X3_thousandths
theorem dX6_reads_0 : decode cX6_reads 0 = .ok (.iload_n 1, 1) := by decide +kernel
theorem dX6_reads_1 : decode cX6_reads 1 = .ok (.invokestatic 182, 3) := by decide +kernel
theorem dX6_reads_4 : decode cX6_reads 4 = .ok (.ifCond .eq 10, 3) := by decide +kernel
theorem dX6_reads_7 : decode cX6_reads 7 = .ok (.iload_n 2, 1) := by decide +kernel
theorem dX6_reads_8 : decode cX6_reads 8 = .ok (.invokestatic 182, 3) := by decide +kernel
theorem dX6_reads_11 : decode cX6_reads 11 = .ok (.ifCond .ne 5, 3) := by decide +kernel
theorem dX6_reads_14 : decode cX6_reads 14 = .ok (.iconst (-1), 1) := by decide +kernel
theorem dX6_reads_15 : decode cX6_reads 15 = .ok (.ireturn, 1) := by decide +kernel
theorem dX6_reads_16 : decode cX6_reads 16 = .ok (.aload_n 0, 1) := by decide +kernel
theorem dX6_reads_17 : decode cX6_reads 17 = .ok (.getfield 33, 3) := by decide +kernel
theorem dX6_reads_20 : decode cX6_reads 20 = .ok (.iload_n 1, 1) := by decide +kernel
theorem dX6_reads_21 : decode cX6_reads 21 = .ok (.iload_n 2, 1) := by decide +kernel
theorem dX6_reads_22 : decode cX6_reads 22 = .ok (.invokevirtual 185, 3) := by decide +kernel
theorem dX6_reads_25 : decode cX6_reads 25 = .ok (.ireturn, 1) := by decide +kernel
set_option maxRecDepth 20000 in
theorem ggX6_means_X6_isSmoke : GoodIn wsX6_means wsX6_isSmoke := goodIn_r _ [5] (by decide +kernel) (by decide +kernel)
set_option maxRecDepth 20000 in
theorem gX6_means_X6_isSmoke : GoodIn wsX6_means (va_wsS RX6 182 yX6_isSmoke wsX6_isSmoke) := goodIn_app (goodIn_of _ (by decide +kernel)) ggX6_means_X6_isSmoke
set_option maxRecDepth 20000 in
theorem ggX6_means_X1_meaning : GoodIn wsX6_means wsX1_meaning := goodIn_r _ [10, 11, 12, 13, 24, 25, 26, 27, 28] (by decide +kernel) (by decide +kernel)
set_option maxRecDepth 20000 in
theorem gX6_means_X1_meaning : GoodIn wsX6_means (wsV RX6 188 RX1 yX1_meaning wsX1_meaning) := goodIn_app (goodIn_of _ (by decide +kernel)) ggX6_means_X1_meaning
theorem dX6_means_0 : decode cX6_means 0 = .ok (.iload_n 1, 1) := by decide +kernel
theorem dX6_means_1 : decode cX6_means 1 = .ok (.invokestatic 182, 3) := by decide +kernel
theorem dX6_means_4 : decode cX6_means 4 = .ok (.ifCond .ne 5, 3) := by decide +kernel
theorem dX6_means_7 : decode cX6_means 7 = .ok (.iconst (-1), 1) := by decide +kernel
theorem dX6_means_8 : decode cX6_means 8 = .ok (.ireturn, 1) := by decide +kernel
theorem dX6_means_9 : decode cX6_means 9 = .ok (.aload_n 0, 1) := by decide +kernel
theorem dX6_means_10 : decode cX6_means 10 = .ok (.getfield 26, 3) := by decide +kernel
theorem dX6_means_13 : decode cX6_means 13 = .ok (.iload_n 1, 1) := by decide +kernel
theorem dX6_means_14 : decode cX6_means 14 = .ok (.invokevirtual 188, 3) := by decide +kernel
theorem dX6_means_17 : decode cX6_means 17 = .ok (.ireturn, 1) := by decide +kernel
set_option maxRecDepth 20000 in
theorem ggX6_chain_X6_isWord : GoodIn wsX6_chain wsX6_isWord := goodIn_r _ [10] (by decide +kernel) (by decide +kernel)
set_option maxRecDepth 20000 in
theorem gX6_chain_X6_isWord : GoodIn wsX6_chain (va_wsS RX6 191 yX6_isWord wsX6_isWord) := goodIn_app (goodIn_of _ (by decide +kernel)) ggX6_chain_X6_isWord
set_option maxRecDepth 20000 in
theorem ggX6_chain_X1_leastSaying : GoodIn wsX6_chain wsX1_leastSaying := goodIn_r _ [15, 16, 17, 57, 58, 59, 60, 61] (by decide +kernel) (by decide +kernel)
set_option maxRecDepth 20000 in
theorem gX6_chain_X1_leastSaying : GoodIn wsX6_chain (wsV RX6 196 RX1 yX1_leastSaying wsX1_leastSaying) := goodIn_app (goodIn_of _ (by decide +kernel)) ggX6_chain_X1_leastSaying
set_option maxRecDepth 20000 in
theorem ggX6_chain_X6_leastTerms : GoodIn wsX6_chain wsX6_leastTerms := goodIn_r _ [20, 1] (by decide +kernel) (by decide +kernel)
set_option maxRecDepth 20000 in
theorem gX6_chain_X6_leastTerms : GoodIn wsX6_chain (va_wsS RX6 199 yX6_leastTerms wsX6_leastTerms) := goodIn_app (goodIn_of _ (by decide +kernel)) ggX6_chain_X6_leastTerms
set_option maxRecDepth 20000 in
theorem ggX6_chain_X0_begin : GoodIn wsX6_chain wsX0_begin := goodIn_r _ [25, 26, 55, 56] (by decide +kernel) (by decide +kernel)
set_option maxRecDepth 20000 in
theorem gX6_chain_X0_begin : GoodIn wsX6_chain (wsV RX6 203 RX0 yX0_begin wsX0_begin) := goodIn_app (goodIn_of _ (by decide +kernel)) ggX6_chain_X0_begin
set_option maxRecDepth 20000 in
theorem ggX6_chain_X0_read : GoodIn wsX6_chain wsX0_read := goodIn_r _ [30, 31, 26, 32, 33, 34, 35, 14, 36, 16, 37, 17, 8, 9, 10, 38, 12, 13, 15, 39, 40, 41, 42, 43, 44, 55, 56, 57, 58, 59, 60, 61, 62, 63, 64, 65, 66, 67, 68, 69] (by decide +kernel) (by decide +kernel)
set_option maxRecDepth 20000 in
theorem gX6_chain_X0_read : GoodIn wsX6_chain (wsV RX6 206 RX0 yX0_read wsX0_read) := goodIn_app (goodIn_of _ (by decide +kernel)) ggX6_chain_X0_read
theorem dX6_chain_0 : decode cX6_chain 0 = .ok (.iload_n 1, 1) := by decide +kernel
theorem dX6_chain_1 : decode cX6_chain 1 = .ok (.invokestatic 191, 3) := by decide +kernel
theorem dX6_chain_4 : decode cX6_chain 4 = .ok (.ifCond .eq 22, 3) := by decide +kernel
theorem dX6_chain_7 : decode cX6_chain 7 = .ok (.iload_n 2, 1) := by decide +kernel
theorem dX6_chain_8 : decode cX6_chain 8 = .ok (.iconst 1, 1) := by decide +kernel
theorem dX6_chain_9 : decode cX6_chain 9 = .ok (.if_icmp .lt 17, 3) := by decide +kernel
theorem dX6_chain_12 : decode cX6_chain 12 = .ok (.iload_n 2, 1) := by decide +kernel
theorem dX6_chain_13 : decode cX6_chain 13 = .ok (.iconst 4, 1) := by decide +kernel
theorem dX6_chain_14 : decode cX6_chain 14 = .ok (.if_icmp .gt 12, 3) := by decide +kernel
theorem dX6_chain_17 : decode cX6_chain 17 = .ok (.iload_n 3, 1) := by decide +kernel
theorem dX6_chain_18 : decode cX6_chain 18 = .ok (.ifCond .lt 8, 3) := by decide +kernel
theorem dX6_chain_21 : decode cX6_chain 21 = .ok (.iload_n 3, 1) := by decide +kernel
theorem dX6_chain_22 : decode cX6_chain 22 = .ok (.iconst 1, 1) := by decide +kernel
theorem dX6_chain_23 : decode cX6_chain 23 = .ok (.if_icmp .le 7, 3) := by decide +kernel
theorem dX6_chain_26 : decode cX6_chain 26 = .ok (.ldc2_w 194, 3) := by decide +kernel
theorem dX6_chain_29 : decode cX6_chain 29 = .ok (.lreturn, 1) := by decide +kernel
theorem dX6_chain_30 : decode cX6_chain 30 = .ok (.aload_n 0, 1) := by decide +kernel
theorem dX6_chain_31 : decode cX6_chain 31 = .ok (.getfield 26, 3) := by decide +kernel
theorem dX6_chain_34 : decode cX6_chain 34 = .ok (.iload_n 1, 1) := by decide +kernel
theorem dX6_chain_35 : decode cX6_chain 35 = .ok (.invokevirtual 196, 3) := by decide +kernel
theorem dX6_chain_38 : decode cX6_chain 38 = .ok (.iconst (-1), 1) := by decide +kernel
theorem dX6_chain_39 : decode cX6_chain 39 = .ok (.if_icmp .ne 10, 3) := by decide +kernel
theorem dX6_chain_42 : decode cX6_chain 42 = .ok (.lconst 0, 1) := by decide +kernel
theorem dX6_chain_43 : decode cX6_chain 43 = .ok (.lconst 1, 1) := by decide +kernel
theorem dX6_chain_44 : decode cX6_chain 44 = .ok (.iload_n 3, 1) := by decide +kernel
theorem dX6_chain_45 : decode cX6_chain 45 = .ok (.invokestatic 199, 3) := by decide +kernel
theorem dX6_chain_48 : decode cX6_chain 48 = .ok (.lreturn, 1) := by decide +kernel
theorem dX6_chain_49 : decode cX6_chain 49 = .ok (.aload_n 0, 1) := by decide +kernel
theorem dX6_chain_50 : decode cX6_chain 50 = .ok (.getfield 53, 3) := by decide +kernel
theorem dX6_chain_53 : decode cX6_chain 53 = .ok (.iload_n 1, 1) := by decide +kernel
theorem dX6_chain_54 : decode cX6_chain 54 = .ok (.invokevirtual 203, 3) := by decide +kernel
theorem dX6_chain_57 : decode cX6_chain 57 = .ok (.lconst 1, 1) := by decide +kernel
theorem dX6_chain_58 : decode cX6_chain 58 = .ok (.lstore 4, 2) := by decide +kernel
theorem dX6_chain_60 : decode cX6_chain 60 = .ok (.iconst 0, 1) := by decide +kernel
theorem dX6_chain_61 : decode cX6_chain 61 = .ok (.istore 6, 2) := by decide +kernel
theorem dX6_chain_63 : decode cX6_chain 63 = .ok (.iload 6, 2) := by decide +kernel
theorem dX6_chain_65 : decode cX6_chain 65 = .ok (.iload_n 2, 1) := by decide +kernel
theorem dX6_chain_66 : decode cX6_chain 66 = .ok (.if_icmp .ge 32, 3) := by decide +kernel
theorem dX6_chain_69 : decode cX6_chain 69 = .ok (.aload_n 0, 1) := by decide +kernel
theorem dX6_chain_70 : decode cX6_chain 70 = .ok (.getfield 53, 3) := by decide +kernel
theorem dX6_chain_73 : decode cX6_chain 73 = .ok (.aload_n 0, 1) := by decide +kernel
theorem dX6_chain_74 : decode cX6_chain 74 = .ok (.getfield 26, 3) := by decide +kernel
theorem dX6_chain_77 : decode cX6_chain 77 = .ok (.aload_n 0, 1) := by decide +kernel
theorem dX6_chain_78 : decode cX6_chain 78 = .ok (.getfield 33, 3) := by decide +kernel
theorem dX6_chain_81 : decode cX6_chain 81 = .ok (.invokevirtual 206, 3) := by decide +kernel
theorem dX6_chain_84 : decode cX6_chain 84 = .ok (.lload 4, 2) := by decide +kernel
theorem dX6_chain_86 : decode cX6_chain 86 = .ok (.ldc2_w 210, 3) := by decide +kernel
theorem dX6_chain_89 : decode cX6_chain 89 = .ok (.lmul, 1) := by decide +kernel
theorem dX6_chain_90 : decode cX6_chain 90 = .ok (.lstore 4, 2) := by decide +kernel
theorem dX6_chain_92 : decode cX6_chain 92 = .ok (.iinc 6 1, 3) := by decide +kernel
theorem dX6_chain_95 : decode cX6_chain 95 = .ok (.goto (-32), 3) := by decide +kernel
theorem dX6_chain_98 : decode cX6_chain 98 = .ok (.aload_n 0, 1) := by decide +kernel
theorem dX6_chain_99 : decode cX6_chain 99 = .ok (.getfield 53, 3) := by decide +kernel
theorem dX6_chain_102 : decode cX6_chain 102 = .ok (.getfield 212, 3) := by decide +kernel
theorem dX6_chain_105 : decode cX6_chain 105 = .ok (.iload_n 1, 1) := by decide +kernel
theorem dX6_chain_106 : decode cX6_chain 106 = .ok (.laload, 1) := by decide +kernel
theorem dX6_chain_107 : decode cX6_chain 107 = .ok (.lload 4, 2) := by decide +kernel
theorem dX6_chain_109 : decode cX6_chain 109 = .ok (.iload_n 3, 1) := by decide +kernel
theorem dX6_chain_110 : decode cX6_chain 110 = .ok (.invokestatic 199, 3) := by decide +kernel
theorem dX6_chain_113 : decode cX6_chain 113 = .ok (.lreturn, 1) := by decide +kernel
set_option maxRecDepth 20000 in
theorem ggX6_who_X6_isSmoke : GoodIn wsX6_who wsX6_isSmoke := goodIn_r _ [6] (by decide +kernel) (by decide +kernel)
set_option maxRecDepth 20000 in
theorem gX6_who_X6_isSmoke : GoodIn wsX6_who (va_wsS RX6 182 yX6_isSmoke wsX6_isSmoke) := goodIn_app (goodIn_of _ (by decide +kernel)) ggX6_who_X6_isSmoke
set_option maxRecDepth 20000 in
theorem ggX6_who_X3_hasHouse : GoodIn wsX6_who wsX3_hasHouse := goodIn_r _ [11, 12, 59, 60, 61, 62, 63, 64, 65, 66] (by decide +kernel) (by decide +kernel)
set_option maxRecDepth 20000 in
theorem gX6_who_X3_hasHouse : GoodIn wsX6_who (wsV RX6 98 RX3 yX3_hasHouse wsX3_hasHouse) := goodIn_app (goodIn_of _ (by decide +kernel)) ggX6_who_X3_hasHouse
set_option maxRecDepth 20000 in
theorem ggX6_who_X6_weightOf : GoodIn wsX6_who wsX6_weightOf := goodIn_r _ [16, 1, 17, 18, 19, 20, 21, 22, 23, 10, 24, 25, 26, 27, 28, 29, 30, 31, 32, 33, 34, 35, 36, 37, 38, 39, 40, 41, 42, 43, 44, 49, 50, 51, 52, 53, 54, 55, 56, 57, 58, 67, 68, 69, 70, 71, 59, 60, 61, 62, 63, 64, 65, 66] (by decide +kernel) (by decide +kernel)
set_option maxRecDepth 20000 in
theorem gX6_who_X6_weightOf : GoodIn wsX6_who (wsV RX6 219 RX6 yX6_weightOf wsX6_weightOf) := goodIn_app (goodIn_of _ (by decide +kernel)) ggX6_who_X6_weightOf
set_option maxRecDepth 20000 in
theorem ggX6_who_X6_leastTerms : GoodIn wsX6_who wsX6_leastTerms := goodIn_r _ [47, 48] (by decide +kernel) (by decide +kernel)
set_option maxRecDepth 20000 in
theorem gX6_who_X6_leastTerms : GoodIn wsX6_who (va_wsS RX6 199 yX6_leastTerms wsX6_leastTerms) := goodIn_app (goodIn_of _ (by decide +kernel)) ggX6_who_X6_leastTerms
theorem dX6_who_0 : decode cX6_who 0 = .ok (.iload_n 1, 1) := by decide +kernel
theorem dX6_who_1 : decode cX6_who 1 = .ok (.invokestatic 182, 3) := by decide +kernel
theorem dX6_who_4 : decode cX6_who 4 = .ok (.ifCond .eq 23, 3) := by decide +kernel
theorem dX6_who_7 : decode cX6_who 7 = .ok (.aload_n 0, 1) := by decide +kernel
theorem dX6_who_8 : decode cX6_who 8 = .ok (.getfield 33, 3) := by decide +kernel
theorem dX6_who_11 : decode cX6_who 11 = .ok (.iload_n 2, 1) := by decide +kernel
theorem dX6_who_12 : decode cX6_who 12 = .ok (.invokevirtual 98, 3) := by decide +kernel
theorem dX6_who_15 : decode cX6_who 15 = .ok (.ifCond .eq 12, 3) := by decide +kernel
theorem dX6_who_18 : decode cX6_who 18 = .ok (.iload_n 3, 1) := by decide +kernel
theorem dX6_who_19 : decode cX6_who 19 = .ok (.ifCond .lt 8, 3) := by decide +kernel
theorem dX6_who_22 : decode cX6_who 22 = .ok (.iload_n 3, 1) := by decide +kernel
theorem dX6_who_23 : decode cX6_who 23 = .ok (.iconst 1, 1) := by decide +kernel
theorem dX6_who_24 : decode cX6_who 24 = .ok (.if_icmp .le 5, 3) := by decide +kernel
theorem dX6_who_27 : decode cX6_who 27 = .ok (.iconst (-1), 1) := by decide +kernel
theorem dX6_who_28 : decode cX6_who 28 = .ok (.ireturn, 1) := by decide +kernel
theorem dX6_who_29 : decode cX6_who 29 = .ok (.iconst 0, 1) := by decide +kernel
theorem dX6_who_30 : decode cX6_who 30 = .ok (.istore 4, 2) := by decide +kernel
theorem dX6_who_32 : decode cX6_who 32 = .ok (.iconst 0, 1) := by decide +kernel
theorem dX6_who_33 : decode cX6_who 33 = .ok (.istore 5, 2) := by decide +kernel
theorem dX6_who_35 : decode cX6_who 35 = .ok (.iload 5, 2) := by decide +kernel
theorem dX6_who_37 : decode cX6_who 37 = .ok (.aload_n 0, 1) := by decide +kernel
theorem dX6_who_38 : decode cX6_who 38 = .ok (.getfield 33, 3) := by decide +kernel
theorem dX6_who_41 : decode cX6_who 41 = .ok (.getfield 216, 3) := by decide +kernel
theorem dX6_who_44 : decode cX6_who 44 = .ok (.if_icmp .ge 21, 3) := by decide +kernel
theorem dX6_who_47 : decode cX6_who 47 = .ok (.iload 4, 2) := by decide +kernel
theorem dX6_who_49 : decode cX6_who 49 = .ok (.aload_n 0, 1) := by decide +kernel
theorem dX6_who_50 : decode cX6_who 50 = .ok (.iload 5, 2) := by decide +kernel
theorem dX6_who_52 : decode cX6_who 52 = .ok (.iload_n 1, 1) := by decide +kernel
theorem dX6_who_53 : decode cX6_who 53 = .ok (.invokevirtual 219, 3) := by decide +kernel
theorem dX6_who_56 : decode cX6_who 56 = .ok (.iadd, 1) := by decide +kernel
theorem dX6_who_57 : decode cX6_who 57 = .ok (.istore 4, 2) := by decide +kernel
theorem dX6_who_59 : decode cX6_who 59 = .ok (.iinc 5 1, 3) := by decide +kernel
theorem dX6_who_62 : decode cX6_who 62 = .ok (.goto (-27), 3) := by decide +kernel
theorem dX6_who_65 : decode cX6_who 65 = .ok (.iload 4, 2) := by decide +kernel
theorem dX6_who_67 : decode cX6_who 67 = .ok (.ifCond .ne 6, 3) := by decide +kernel
theorem dX6_who_70 : decode cX6_who 70 = .ok (.bipush (-2), 2) := by decide +kernel
theorem dX6_who_72 : decode cX6_who 72 = .ok (.ireturn, 1) := by decide +kernel
theorem dX6_who_73 : decode cX6_who 73 = .ok (.aload_n 0, 1) := by decide +kernel
theorem dX6_who_74 : decode cX6_who 74 = .ok (.iload_n 2, 1) := by decide +kernel
theorem dX6_who_75 : decode cX6_who 75 = .ok (.iload_n 1, 1) := by decide +kernel
theorem dX6_who_76 : decode cX6_who 76 = .ok (.invokevirtual 219, 3) := by decide +kernel
theorem dX6_who_79 : decode cX6_who 79 = .ok (.i2l, 1) := by decide +kernel
theorem dX6_who_80 : decode cX6_who 80 = .ok (.iload 4, 2) := by decide +kernel
theorem dX6_who_82 : decode cX6_who 82 = .ok (.i2l, 1) := by decide +kernel
theorem dX6_who_83 : decode cX6_who 83 = .ok (.iload_n 3, 1) := by decide +kernel
theorem dX6_who_84 : decode cX6_who 84 = .ok (.invokestatic 199, 3) := by decide +kernel
theorem dX6_who_87 : decode cX6_who 87 = .ok (.l2i, 1) := by decide +kernel
theorem dX6_who_88 : decode cX6_who 88 = .ok (.ireturn, 1) := by decide +kernel
set_option maxRecDepth 20000 in
theorem ggX6_days_X3_hasHouse : GoodIn wsX6_days wsX3_hasHouse := goodIn_r _ [8, 9, 49, 50, 51, 52, 53, 54, 55, 56] (by decide +kernel) (by decide +kernel)
set_option maxRecDepth 20000 in
theorem gX6_days_X3_hasHouse : GoodIn wsX6_days (wsV RX6 98 RX3 yX3_hasHouse wsX3_hasHouse) := goodIn_app (goodIn_of _ (by decide +kernel)) ggX6_days_X3_hasHouse
set_option maxRecDepth 20000 in
theorem ggX6_days_X3_fill : GoodIn wsX6_days wsX3_fill := goodIn_r _ [13, 14, 15, 16, 7, 17, 18, 49, 50, 51, 52, 53, 54, 55, 56] (by decide +kernel) (by decide +kernel)
set_option maxRecDepth 20000 in
theorem gX6_days_X3_fill : GoodIn wsX6_days (wsV RX6 164 RX3 yX3_fill wsX3_fill) := goodIn_app (goodIn_of _ (by decide +kernel)) ggX6_days_X3_fill
set_option maxRecDepth 20000 in
theorem ggX6_days_X1_leanest : GoodIn wsX6_days wsX1_leanest := goodIn_r _ [23, 24, 25, 26, 27, 28, 22, 29, 30, 31, 32, 33, 34, 57, 58, 59, 60, 61] (by decide +kernel) (by decide +kernel)
set_option maxRecDepth 20000 in
theorem gX6_days_X1_leanest : GoodIn wsX6_days (wsV RX6 222 RX1 yX1_leanest wsX1_leanest) := goodIn_app (goodIn_of _ (by decide +kernel)) ggX6_days_X1_leanest
set_option maxRecDepth 20000 in
theorem ggX6_days_X1_take : GoodIn wsX6_days wsX1_take := goodIn_r _ [38, 30, 31, 32, 22, 33, 34, 57, 58, 59, 60, 61] (by decide +kernel) (by decide +kernel)
set_option maxRecDepth 20000 in
theorem gX6_days_X1_take : GoodIn wsX6_days (wsV RX6 226 RX1 yX1_take wsX1_take) := goodIn_app (goodIn_of _ (by decide +kernel)) ggX6_days_X1_take
theorem dX6_days_0 : decode cX6_days 0 = .ok (.aload_n 0, 1) := by decide +kernel
theorem dX6_days_1 : decode cX6_days 1 = .ok (.getfield 33, 3) := by decide +kernel
theorem dX6_days_4 : decode cX6_days 4 = .ok (.iload_n 1, 1) := by decide +kernel
theorem dX6_days_5 : decode cX6_days 5 = .ok (.invokevirtual 98, 3) := by decide +kernel
theorem dX6_days_8 : decode cX6_days 8 = .ok (.ifCond .ne 5, 3) := by decide +kernel
theorem dX6_days_11 : decode cX6_days 11 = .ok (.iconst (-1), 1) := by decide +kernel
theorem dX6_days_12 : decode cX6_days 12 = .ok (.ireturn, 1) := by decide +kernel
theorem dX6_days_13 : decode cX6_days 13 = .ok (.aload_n 0, 1) := by decide +kernel
theorem dX6_days_14 : decode cX6_days 14 = .ok (.getfield 33, 3) := by decide +kernel
theorem dX6_days_17 : decode cX6_days 17 = .ok (.iload_n 1, 1) := by decide +kernel
theorem dX6_days_18 : decode cX6_days 18 = .ok (.aload_n 0, 1) := by decide +kernel
theorem dX6_days_19 : decode cX6_days 19 = .ok (.getfield 57, 3) := by decide +kernel
theorem dX6_days_22 : decode cX6_days 22 = .ok (.invokevirtual 164, 3) := by decide +kernel
theorem dX6_days_25 : decode cX6_days 25 = .ok (.iconst 0, 1) := by decide +kernel
theorem dX6_days_26 : decode cX6_days 26 = .ok (.istore_n 2, 1) := by decide +kernel
theorem dX6_days_27 : decode cX6_days 27 = .ok (.iload_n 2, 1) := by decide +kernel
theorem dX6_days_28 : decode cX6_days 28 = .ok (.bipush 30, 2) := by decide +kernel
theorem dX6_days_30 : decode cX6_days 30 = .ok (.if_icmp .ge 40, 3) := by decide +kernel
theorem dX6_days_33 : decode cX6_days 33 = .ok (.aload_n 0, 1) := by decide +kernel
theorem dX6_days_34 : decode cX6_days 34 = .ok (.getfield 26, 3) := by decide +kernel
theorem dX6_days_37 : decode cX6_days 37 = .ok (.aload_n 0, 1) := by decide +kernel
theorem dX6_days_38 : decode cX6_days 38 = .ok (.getfield 57, 3) := by decide +kernel
theorem dX6_days_41 : decode cX6_days 41 = .ok (.invokevirtual 222, 3) := by decide +kernel
theorem dX6_days_44 : decode cX6_days 44 = .ok (.istore_n 3, 1) := by decide +kernel
theorem dX6_days_45 : decode cX6_days 45 = .ok (.iload_n 3, 1) := by decide +kernel
theorem dX6_days_46 : decode cX6_days 46 = .ok (.iconst (-1), 1) := by decide +kernel
theorem dX6_days_47 : decode cX6_days 47 = .ok (.if_icmp .ne 5, 3) := by decide +kernel
theorem dX6_days_50 : decode cX6_days 50 = .ok (.iload_n 2, 1) := by decide +kernel
theorem dX6_days_51 : decode cX6_days 51 = .ok (.ireturn, 1) := by decide +kernel
theorem dX6_days_52 : decode cX6_days 52 = .ok (.aload_n 0, 1) := by decide +kernel
theorem dX6_days_53 : decode cX6_days 53 = .ok (.getfield 26, 3) := by decide +kernel
theorem dX6_days_56 : decode cX6_days 56 = .ok (.iload_n 3, 1) := by decide +kernel
theorem dX6_days_57 : decode cX6_days 57 = .ok (.aload_n 0, 1) := by decide +kernel
theorem dX6_days_58 : decode cX6_days 58 = .ok (.getfield 57, 3) := by decide +kernel
theorem dX6_days_61 : decode cX6_days 61 = .ok (.invokevirtual 226, 3) := by decide +kernel
theorem dX6_days_64 : decode cX6_days 64 = .ok (.iinc 2 1, 3) := by decide +kernel
theorem dX6_days_67 : decode cX6_days 67 = .ok (.goto (-40), 3) := by decide +kernel
theorem dX6_days_70 : decode cX6_days 70 = .ok (.bipush 30, 2) := by decide +kernel
theorem dX6_days_72 : decode cX6_days 72 = .ok (.ireturn, 1) := by decide +kernel
set_option maxRecDepth 20000 in
theorem ggX6_code_J6_bitCount_0f7a4 : GoodIn wsX6_code wsJ6_bitCount_0f7a4 := goodIn_r _ [10, 11, 12, 13] (by decide +kernel) (by decide +kernel)
set_option maxRecDepth 20000 in
theorem gX6_code_J6_bitCount_0f7a4 : GoodIn wsX6_code (va_wsS RX6 229 yJ6_bitCount_0f7a4 wsJ6_bitCount_0f7a4) := goodIn_app (goodIn_of _ (by decide +kernel)) ggX6_code_J6_bitCount_0f7a4
set_option maxRecDepth 20000 in
theorem ggX6_code_X1_tellsApart : GoodIn wsX6_code wsX1_tellsApart := goodIn_r _ [18, 19, 20, 21, 22, 17, 23, 24, 25, 26, 27, 28, 29, 8, 9, 10, 11, 12, 13, 40, 41, 42, 43, 44] (by decide +kernel) (by decide +kernel)
set_option maxRecDepth 20000 in
theorem gX6_code_X1_tellsApart : GoodIn wsX6_code (wsV RX6 237 RX1 yX1_tellsApart wsX1_tellsApart) := goodIn_app (goodIn_of _ (by decide +kernel)) ggX6_code_X1_tellsApart
theorem dX6_code_0 : decode cX6_code 0 = .ok (.iload_n 1, 1) := by decide +kernel
theorem dX6_code_1 : decode cX6_code 1 = .ok (.ifCond .lt 29, 3) := by decide +kernel
theorem dX6_code_4 : decode cX6_code 4 = .ok (.iload_n 1, 1) := by decide +kernel
theorem dX6_code_5 : decode cX6_code 5 = .ok (.sipush 256, 3) := by decide +kernel
theorem dX6_code_8 : decode cX6_code 8 = .ok (.if_icmp .ge 22, 3) := by decide +kernel
theorem dX6_code_11 : decode cX6_code 11 = .ok (.iload_n 2, 1) := by decide +kernel
theorem dX6_code_12 : decode cX6_code 12 = .ok (.iconst 1, 1) := by decide +kernel
theorem dX6_code_13 : decode cX6_code 13 = .ok (.if_icmp .lt 17, 3) := by decide +kernel
theorem dX6_code_16 : decode cX6_code 16 = .ok (.iload_n 2, 1) := by decide +kernel
theorem dX6_code_17 : decode cX6_code 17 = .ok (.iconst 3, 1) := by decide +kernel
theorem dX6_code_18 : decode cX6_code 18 = .ok (.if_icmp .gt 12, 3) := by decide +kernel
theorem dX6_code_21 : decode cX6_code 21 = .ok (.iload_n 3, 1) := by decide +kernel
theorem dX6_code_22 : decode cX6_code 22 = .ok (.ifCond .lt 8, 3) := by decide +kernel
theorem dX6_code_25 : decode cX6_code 25 = .ok (.iload_n 3, 1) := by decide +kernel
theorem dX6_code_26 : decode cX6_code 26 = .ok (.iconst 1, 1) := by decide +kernel
theorem dX6_code_27 : decode cX6_code 27 = .ok (.if_icmp .le 5, 3) := by decide +kernel
theorem dX6_code_30 : decode cX6_code 30 = .ok (.iconst (-1), 1) := by decide +kernel
theorem dX6_code_31 : decode cX6_code 31 = .ok (.ireturn, 1) := by decide +kernel
theorem dX6_code_32 : decode cX6_code 32 = .ok (.iload_n 1, 1) := by decide +kernel
theorem dX6_code_33 : decode cX6_code 33 = .ok (.invokestatic 229, 3) := by decide +kernel
theorem dX6_code_36 : decode cX6_code 36 = .ok (.istore 4, 2) := by decide +kernel
theorem dX6_code_38 : decode cX6_code 38 = .ok (.iconst 0, 1) := by decide +kernel
theorem dX6_code_39 : decode cX6_code 39 = .ok (.istore 5, 2) := by decide +kernel
theorem dX6_code_41 : decode cX6_code 41 = .ok (.iconst 0, 1) := by decide +kernel
theorem dX6_code_42 : decode cX6_code 42 = .ok (.istore 6, 2) := by decide +kernel
theorem dX6_code_44 : decode cX6_code 44 = .ok (.iload 6, 2) := by decide +kernel
theorem dX6_code_46 : decode cX6_code 46 = .ok (.iconst 1, 1) := by decide +kernel
theorem dX6_code_47 : decode cX6_code 47 = .ok (.aload_n 0, 1) := by decide +kernel
theorem dX6_code_48 : decode cX6_code 48 = .ok (.getfield 26, 3) := by decide +kernel
theorem dX6_code_51 : decode cX6_code 51 = .ok (.getfield 234, 3) := by decide +kernel
theorem dX6_code_54 : decode cX6_code 54 = .ok (.ishl, 1) := by decide +kernel
theorem dX6_code_55 : decode cX6_code 55 = .ok (.if_icmp .ge 63, 3) := by decide +kernel
theorem dX6_code_58 : decode cX6_code 58 = .ok (.iload 6, 2) := by decide +kernel
theorem dX6_code_60 : decode cX6_code 60 = .ok (.invokestatic 229, 3) := by decide +kernel
theorem dX6_code_63 : decode cX6_code 63 = .ok (.istore 7, 2) := by decide +kernel
theorem dX6_code_65 : decode cX6_code 65 = .ok (.iload 7, 2) := by decide +kernel
theorem dX6_code_67 : decode cX6_code 67 = .ok (.iload 4, 2) := by decide +kernel
theorem dX6_code_69 : decode cX6_code 69 = .ok (.if_icmp .gt 43, 3) := by decide +kernel
theorem dX6_code_72 : decode cX6_code 72 = .ok (.aload_n 0, 1) := by decide +kernel
theorem dX6_code_73 : decode cX6_code 73 = .ok (.getfield 26, 3) := by decide +kernel
theorem dX6_code_76 : decode cX6_code 76 = .ok (.iload 6, 2) := by decide +kernel
theorem dX6_code_78 : decode cX6_code 78 = .ok (.iload_n 1, 1) := by decide +kernel
