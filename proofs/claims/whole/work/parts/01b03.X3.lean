theorem dX3_init_0 : decode cX3_init 0 = .ok (.aload_n 0, 1) := by decide +kernel
theorem dX3_init_1 : decode cX3_init 1 = .ok (.invokespecial 3, 3) := by decide +kernel
theorem dX3_init_4 : decode cX3_init 4 = .ok (.aload_n 0, 1) := by decide +kernel
theorem dX3_init_5 : decode cX3_init 5 = .ok (.bipush 30, 2) := by decide +kernel
theorem dX3_init_7 : decode cX3_init 7 = .ok (.newarray .int, 2) := by decide +kernel
theorem dX3_init_9 : decode cX3_init 9 = .ok (.putfield 9, 3) := by decide +kernel
theorem dX3_init_12 : decode cX3_init 12 = .ok (.aload_n 0, 1) := by decide +kernel
theorem dX3_init_13 : decode cX3_init 13 = .ok (.bipush 20, 2) := by decide +kernel
theorem dX3_init_15 : decode cX3_init 15 = .ok (.newarray .int, 2) := by decide +kernel
theorem dX3_init_17 : decode cX3_init 17 = .ok (.putfield 15, 3) := by decide +kernel
theorem dX3_init_20 : decode cX3_init 20 = .ok (.aload_n 0, 1) := by decide +kernel
theorem dX3_init_21 : decode cX3_init 21 = .ok (.bipush 20, 2) := by decide +kernel
theorem dX3_init_23 : decode cX3_init 23 = .ok (.newarray .int, 2) := by decide +kernel
theorem dX3_init_25 : decode cX3_init 25 = .ok (.putfield 18, 3) := by decide +kernel
theorem dX3_init_28 : decode cX3_init 28 = .ok (.aload_n 0, 1) := by decide +kernel
theorem dX3_init_29 : decode cX3_init 29 = .ok (.iconst 0, 1) := by decide +kernel
theorem dX3_init_30 : decode cX3_init 30 = .ok (.putfield 21, 3) := by decide +kernel
theorem dX3_init_33 : decode cX3_init 33 = .ok (.aload_n 0, 1) := by decide +kernel
theorem dX3_init_34 : decode cX3_init 34 = .ok (.iconst 0, 1) := by decide +kernel
theorem dX3_init_35 : decode cX3_init 35 = .ok (.putfield 25, 3) := by decide +kernel
theorem dX3_init_38 : decode cX3_init 38 = .ok (.aload_n 0, 1) := by decide +kernel
theorem dX3_init_39 : decode cX3_init 39 = .ok (.iconst 0, 1) := by decide +kernel
theorem dX3_init_40 : decode cX3_init 40 = .ok (.putfield 28, 3) := by decide +kernel
theorem dX3_init_43 : decode cX3_init 43 = .ok (.aload_n 0, 1) := by decide +kernel
theorem dX3_init_44 : decode cX3_init 44 = .ok (.iconst 1, 1) := by decide +kernel
theorem dX3_init_45 : decode cX3_init 45 = .ok (.putfield 31, 3) := by decide +kernel
theorem dX3_init_48 : decode cX3_init 48 = .ok (.aload_n 0, 1) := by decide +kernel
theorem dX3_init_49 : decode cX3_init 49 = .ok (.iconst 0, 1) := by decide +kernel
theorem dX3_init_50 : decode cX3_init 50 = .ok (.putfield 34, 3) := by decide +kernel
theorem dX3_init_53 : decode cX3_init 53 = .ok (.return_, 1) := by decide +kernel
theorem dX3_become_0 : decode cX3_become 0 = .ok (.aload_n 0, 1) := by decide +kernel
theorem dX3_become_1 : decode cX3_become 1 = .ok (.aload_n 1, 1) := by decide +kernel
theorem dX3_become_2 : decode cX3_become 2 = .ok (.getfield 21, 3) := by decide +kernel
theorem dX3_become_5 : decode cX3_become 5 = .ok (.putfield 21, 3) := by decide +kernel
theorem dX3_become_8 : decode cX3_become 8 = .ok (.aload_n 0, 1) := by decide +kernel
theorem dX3_become_9 : decode cX3_become 9 = .ok (.aload_n 1, 1) := by decide +kernel
theorem dX3_become_10 : decode cX3_become 10 = .ok (.getfield 25, 3) := by decide +kernel
theorem dX3_become_13 : decode cX3_become 13 = .ok (.putfield 25, 3) := by decide +kernel
theorem dX3_become_16 : decode cX3_become 16 = .ok (.aload_n 0, 1) := by decide +kernel
theorem dX3_become_17 : decode cX3_become 17 = .ok (.aload_n 1, 1) := by decide +kernel
theorem dX3_become_18 : decode cX3_become 18 = .ok (.getfield 28, 3) := by decide +kernel
theorem dX3_become_21 : decode cX3_become 21 = .ok (.putfield 28, 3) := by decide +kernel
theorem dX3_become_24 : decode cX3_become 24 = .ok (.aload_n 0, 1) := by decide +kernel
theorem dX3_become_25 : decode cX3_become 25 = .ok (.aload_n 1, 1) := by decide +kernel
theorem dX3_become_26 : decode cX3_become 26 = .ok (.getfield 31, 3) := by decide +kernel
theorem dX3_become_29 : decode cX3_become 29 = .ok (.putfield 31, 3) := by decide +kernel
theorem dX3_become_32 : decode cX3_become 32 = .ok (.iconst 0, 1) := by decide +kernel
theorem dX3_become_33 : decode cX3_become 33 = .ok (.istore_n 2, 1) := by decide +kernel
theorem dX3_become_34 : decode cX3_become 34 = .ok (.iload_n 2, 1) := by decide +kernel
theorem dX3_become_35 : decode cX3_become 35 = .ok (.bipush 30, 2) := by decide +kernel
theorem dX3_become_37 : decode cX3_become 37 = .ok (.if_icmp .ge 21, 3) := by decide +kernel
theorem dX3_become_40 : decode cX3_become 40 = .ok (.aload_n 0, 1) := by decide +kernel
theorem dX3_become_41 : decode cX3_become 41 = .ok (.getfield 9, 3) := by decide +kernel
theorem dX3_become_44 : decode cX3_become 44 = .ok (.iload_n 2, 1) := by decide +kernel
theorem dX3_become_45 : decode cX3_become 45 = .ok (.aload_n 1, 1) := by decide +kernel
theorem dX3_become_46 : decode cX3_become 46 = .ok (.getfield 9, 3) := by decide +kernel
theorem dX3_become_49 : decode cX3_become 49 = .ok (.iload_n 2, 1) := by decide +kernel
theorem dX3_become_50 : decode cX3_become 50 = .ok (.iaload, 1) := by decide +kernel
theorem dX3_become_51 : decode cX3_become 51 = .ok (.iastore, 1) := by decide +kernel
theorem dX3_become_52 : decode cX3_become 52 = .ok (.iinc 2 1, 3) := by decide +kernel
theorem dX3_become_55 : decode cX3_become 55 = .ok (.goto (-21), 3) := by decide +kernel
theorem dX3_become_58 : decode cX3_become 58 = .ok (.iconst 0, 1) := by decide +kernel
theorem dX3_become_59 : decode cX3_become 59 = .ok (.istore_n 2, 1) := by decide +kernel
theorem dX3_become_60 : decode cX3_become 60 = .ok (.iload_n 2, 1) := by decide +kernel
theorem dX3_become_61 : decode cX3_become 61 = .ok (.bipush 20, 2) := by decide +kernel
theorem dX3_become_63 : decode cX3_become 63 = .ok (.if_icmp .ge 33, 3) := by decide +kernel
theorem dX3_become_66 : decode cX3_become 66 = .ok (.aload_n 0, 1) := by decide +kernel
theorem dX3_become_67 : decode cX3_become 67 = .ok (.getfield 15, 3) := by decide +kernel
theorem dX3_become_70 : decode cX3_become 70 = .ok (.iload_n 2, 1) := by decide +kernel
theorem dX3_become_71 : decode cX3_become 71 = .ok (.aload_n 1, 1) := by decide +kernel
theorem dX3_become_72 : decode cX3_become 72 = .ok (.getfield 15, 3) := by decide +kernel
theorem dX3_become_75 : decode cX3_become 75 = .ok (.iload_n 2, 1) := by decide +kernel
theorem dX3_become_76 : decode cX3_become 76 = .ok (.iaload, 1) := by decide +kernel
theorem dX3_become_77 : decode cX3_become 77 = .ok (.iastore, 1) := by decide +kernel
theorem dX3_become_78 : decode cX3_become 78 = .ok (.aload_n 0, 1) := by decide +kernel
theorem dX3_become_79 : decode cX3_become 79 = .ok (.getfield 18, 3) := by decide +kernel
theorem dX3_become_82 : decode cX3_become 82 = .ok (.iload_n 2, 1) := by decide +kernel
theorem dX3_become_83 : decode cX3_become 83 = .ok (.aload_n 1, 1) := by decide +kernel
theorem dX3_become_84 : decode cX3_become 84 = .ok (.getfield 18, 3) := by decide +kernel
theorem dX3_become_87 : decode cX3_become 87 = .ok (.iload_n 2, 1) := by decide +kernel
theorem dX3_become_88 : decode cX3_become 88 = .ok (.iaload, 1) := by decide +kernel
theorem dX3_become_89 : decode cX3_become 89 = .ok (.iastore, 1) := by decide +kernel
theorem dX3_become_90 : decode cX3_become 90 = .ok (.iinc 2 1, 3) := by decide +kernel
theorem dX3_become_93 : decode cX3_become 93 = .ok (.goto (-33), 3) := by decide +kernel
theorem dX3_become_96 : decode cX3_become 96 = .ok (.return_, 1) := by decide +kernel
theorem dX3_settle_0 : decode cX3_settle 0 = .ok (.aload_n 0, 1) := by decide +kernel
theorem dX3_settle_1 : decode cX3_settle 1 = .ok (.getfield 21, 3) := by decide +kernel
theorem dX3_settle_4 : decode cX3_settle 4 = .ok (.bipush 6, 2) := by decide +kernel
theorem dX3_settle_6 : decode cX3_settle 6 = .ok (.if_icmp .ge 9, 3) := by decide +kernel
theorem dX3_settle_9 : decode cX3_settle 9 = .ok (.aload_n 1, 1) := by decide +kernel
theorem dX3_settle_10 : decode cX3_settle 10 = .ok (.arraylength, 1) := by decide +kernel
theorem dX3_settle_11 : decode cX3_settle 11 = .ok (.iconst 5, 1) := by decide +kernel
theorem dX3_settle_12 : decode cX3_settle 12 = .ok (.if_icmp .ge 4, 3) := by decide +kernel
theorem dX3_settle_15 : decode cX3_settle 15 = .ok (.return_, 1) := by decide +kernel
theorem dX3_settle_16 : decode cX3_settle 16 = .ok (.iconst 0, 1) := by decide +kernel
theorem dX3_settle_17 : decode cX3_settle 17 = .ok (.istore_n 2, 1) := by decide +kernel
theorem dX3_settle_18 : decode cX3_settle 18 = .ok (.iload_n 2, 1) := by decide +kernel
theorem dX3_settle_19 : decode cX3_settle 19 = .ok (.iconst 5, 1) := by decide +kernel
theorem dX3_settle_20 : decode cX3_settle 20 = .ok (.if_icmp .ge 25, 3) := by decide +kernel
theorem dX3_settle_23 : decode cX3_settle 23 = .ok (.aload_n 0, 1) := by decide +kernel
theorem dX3_settle_24 : decode cX3_settle 24 = .ok (.getfield 9, 3) := by decide +kernel
theorem dX3_settle_27 : decode cX3_settle 27 = .ok (.aload_n 0, 1) := by decide +kernel
theorem dX3_settle_28 : decode cX3_settle 28 = .ok (.getfield 21, 3) := by decide +kernel
theorem dX3_settle_31 : decode cX3_settle 31 = .ok (.iconst 5, 1) := by decide +kernel
theorem dX3_settle_32 : decode cX3_settle 32 = .ok (.imul, 1) := by decide +kernel
theorem dX3_settle_33 : decode cX3_settle 33 = .ok (.iload_n 2, 1) := by decide +kernel
theorem dX3_settle_34 : decode cX3_settle 34 = .ok (.iadd, 1) := by decide +kernel
theorem dX3_settle_35 : decode cX3_settle 35 = .ok (.aload_n 1, 1) := by decide +kernel
theorem dX3_settle_36 : decode cX3_settle 36 = .ok (.iload_n 2, 1) := by decide +kernel
theorem dX3_settle_37 : decode cX3_settle 37 = .ok (.iaload, 1) := by decide +kernel
theorem dX3_settle_38 : decode cX3_settle 38 = .ok (.iastore, 1) := by decide +kernel
theorem dX3_settle_39 : decode cX3_settle 39 = .ok (.iinc 2 1, 3) := by decide +kernel
theorem dX3_settle_42 : decode cX3_settle 42 = .ok (.goto (-24), 3) := by decide +kernel
theorem dX3_settle_45 : decode cX3_settle 45 = .ok (.aload_n 0, 1) := by decide +kernel
theorem dX3_settle_46 : decode cX3_settle 46 = .ok (.dup, 1) := by decide +kernel
theorem dX3_settle_47 : decode cX3_settle 47 = .ok (.getfield 21, 3) := by decide +kernel
theorem dX3_settle_50 : decode cX3_settle 50 = .ok (.iconst 1, 1) := by decide +kernel
theorem dX3_settle_51 : decode cX3_settle 51 = .ok (.iadd, 1) := by decide +kernel
theorem dX3_settle_52 : decode cX3_settle 52 = .ok (.putfield 21, 3) := by decide +kernel
theorem dX3_settle_55 : decode cX3_settle 55 = .ok (.return_, 1) := by decide +kernel
theorem dX3_hasHouse_0 : decode cX3_hasHouse 0 = .ok (.iload_n 1, 1) := by decide +kernel
theorem dX3_hasHouse_1 : decode cX3_hasHouse 1 = .ok (.ifCond .lt 15, 3) := by decide +kernel
theorem dX3_hasHouse_4 : decode cX3_hasHouse 4 = .ok (.iload_n 1, 1) := by decide +kernel
theorem dX3_hasHouse_5 : decode cX3_hasHouse 5 = .ok (.aload_n 0, 1) := by decide +kernel
theorem dX3_hasHouse_6 : decode cX3_hasHouse 6 = .ok (.getfield 21, 3) := by decide +kernel
theorem dX3_hasHouse_9 : decode cX3_hasHouse 9 = .ok (.if_icmp .ge 7, 3) := by decide +kernel
theorem dX3_hasHouse_12 : decode cX3_hasHouse 12 = .ok (.iconst 1, 1) := by decide +kernel
theorem dX3_hasHouse_13 : decode cX3_hasHouse 13 = .ok (.goto 4, 3) := by decide +kernel
theorem dX3_hasHouse_16 : decode cX3_hasHouse 16 = .ok (.iconst 0, 1) := by decide +kernel
theorem dX3_hasHouse_17 : decode cX3_hasHouse 17 = .ok (.ireturn, 1) := by decide +kernel
theorem dX3_stock_0 : decode cX3_stock 0 = .ok (.aload_n 0, 1) := by decide +kernel
theorem dX3_stock_1 : decode cX3_stock 1 = .ok (.getfield 9, 3) := by decide +kernel
theorem dX3_stock_4 : decode cX3_stock 4 = .ok (.iload_n 1, 1) := by decide +kernel
theorem dX3_stock_5 : decode cX3_stock 5 = .ok (.iconst 5, 1) := by decide +kernel
theorem dX3_stock_6 : decode cX3_stock 6 = .ok (.imul, 1) := by decide +kernel
theorem dX3_stock_7 : decode cX3_stock 7 = .ok (.iload_n 2, 1) := by decide +kernel
theorem dX3_stock_8 : decode cX3_stock 8 = .ok (.iadd, 1) := by decide +kernel
theorem dX3_stock_9 : decode cX3_stock 9 = .ok (.iaload, 1) := by decide +kernel
theorem dX3_stock_10 : decode cX3_stock 10 = .ok (.ireturn, 1) := by decide +kernel
set_option maxRecDepth 20000 in
theorem ggX3_allStock_X3_stock : GoodIn wsX3_allStock wsX3_stock := goodIn_r _ [5, 6, 7, 8, 9, 10, 11, 12, 13, 14] (by decide +kernel) (by decide +kernel)
set_option maxRecDepth 20000 in
theorem gX3_allStock_X3_stock : GoodIn wsX3_allStock (wsV RX3 38 RX3 yX3_stock wsX3_stock) := goodIn_app (goodIn_of _ (by decide +kernel)) ggX3_allStock_X3_stock
theorem dX3_allStock_0 : decode cX3_allStock 0 = .ok (.iconst 0, 1) := by decide +kernel
theorem dX3_allStock_1 : decode cX3_allStock 1 = .ok (.istore_n 2, 1) := by decide +kernel
theorem dX3_allStock_2 : decode cX3_allStock 2 = .ok (.iconst 0, 1) := by decide +kernel
theorem dX3_allStock_3 : decode cX3_allStock 3 = .ok (.istore_n 3, 1) := by decide +kernel
theorem dX3_allStock_4 : decode cX3_allStock 4 = .ok (.iload_n 3, 1) := by decide +kernel
theorem dX3_allStock_5 : decode cX3_allStock 5 = .ok (.iconst 5, 1) := by decide +kernel
theorem dX3_allStock_6 : decode cX3_allStock 6 = .ok (.if_icmp .ge 18, 3) := by decide +kernel
theorem dX3_allStock_9 : decode cX3_allStock 9 = .ok (.iload_n 2, 1) := by decide +kernel
theorem dX3_allStock_10 : decode cX3_allStock 10 = .ok (.aload_n 0, 1) := by decide +kernel
theorem dX3_allStock_11 : decode cX3_allStock 11 = .ok (.iload_n 1, 1) := by decide +kernel
theorem dX3_allStock_12 : decode cX3_allStock 12 = .ok (.iload_n 3, 1) := by decide +kernel
theorem dX3_allStock_13 : decode cX3_allStock 13 = .ok (.invokevirtual 38, 3) := by decide +kernel
theorem dX3_allStock_16 : decode cX3_allStock 16 = .ok (.iadd, 1) := by decide +kernel
theorem dX3_allStock_17 : decode cX3_allStock 17 = .ok (.istore_n 2, 1) := by decide +kernel
theorem dX3_allStock_18 : decode cX3_allStock 18 = .ok (.iinc 3 1, 3) := by decide +kernel
theorem dX3_allStock_21 : decode cX3_allStock 21 = .ok (.goto (-17), 3) := by decide +kernel
theorem dX3_allStock_24 : decode cX3_allStock 24 = .ok (.iload_n 2, 1) := by decide +kernel
theorem dX3_allStock_25 : decode cX3_allStock 25 = .ok (.ireturn, 1) := by decide +kernel
theorem dX3_change_0 : decode cX3_change 0 = .ok (.aload_n 0, 1) := by decide +kernel
theorem dX3_change_1 : decode cX3_change 1 = .ok (.getfield 9, 3) := by decide +kernel
theorem dX3_change_4 : decode cX3_change 4 = .ok (.iload_n 1, 1) := by decide +kernel
theorem dX3_change_5 : decode cX3_change 5 = .ok (.iconst 5, 1) := by decide +kernel
theorem dX3_change_6 : decode cX3_change 6 = .ok (.imul, 1) := by decide +kernel
theorem dX3_change_7 : decode cX3_change 7 = .ok (.iload_n 2, 1) := by decide +kernel
theorem dX3_change_8 : decode cX3_change 8 = .ok (.iadd, 1) := by decide +kernel
theorem dX3_change_9 : decode cX3_change 9 = .ok (.dup2, 1) := by decide +kernel
theorem dX3_change_10 : decode cX3_change 10 = .ok (.iaload, 1) := by decide +kernel
theorem dX3_change_11 : decode cX3_change 11 = .ok (.iload_n 3, 1) := by decide +kernel
theorem dX3_change_12 : decode cX3_change 12 = .ok (.iadd, 1) := by decide +kernel
theorem dX3_change_13 : decode cX3_change 13 = .ok (.iastore, 1) := by decide +kernel
theorem dX3_change_14 : decode cX3_change 14 = .ok (.return_, 1) := by decide +kernel
set_option maxRecDepth 20000 in
theorem ggX3_fill_X3_stock : GoodIn wsX3_fill wsX3_stock := goodIn_r _ [5, 6, 7, 8, 9, 10, 11, 12, 13, 14] (by decide +kernel) (by decide +kernel)
set_option maxRecDepth 20000 in
theorem gX3_fill_X3_stock : GoodIn wsX3_fill (wsV RX3 38 RX3 yX3_stock wsX3_stock) := goodIn_app (goodIn_of _ (by decide +kernel)) ggX3_fill_X3_stock
theorem dX3_fill_0 : decode cX3_fill 0 = .ok (.iconst 0, 1) := by decide +kernel
theorem dX3_fill_1 : decode cX3_fill 1 = .ok (.istore_n 3, 1) := by decide +kernel
theorem dX3_fill_2 : decode cX3_fill 2 = .ok (.iload_n 3, 1) := by decide +kernel
theorem dX3_fill_3 : decode cX3_fill 3 = .ok (.iconst 5, 1) := by decide +kernel
theorem dX3_fill_4 : decode cX3_fill 4 = .ok (.if_icmp .ge 18, 3) := by decide +kernel
theorem dX3_fill_7 : decode cX3_fill 7 = .ok (.aload_n 2, 1) := by decide +kernel
theorem dX3_fill_8 : decode cX3_fill 8 = .ok (.iload_n 3, 1) := by decide +kernel
theorem dX3_fill_9 : decode cX3_fill 9 = .ok (.aload_n 0, 1) := by decide +kernel
theorem dX3_fill_10 : decode cX3_fill 10 = .ok (.iload_n 1, 1) := by decide +kernel
theorem dX3_fill_11 : decode cX3_fill 11 = .ok (.iload_n 3, 1) := by decide +kernel
theorem dX3_fill_12 : decode cX3_fill 12 = .ok (.invokevirtual 38, 3) := by decide +kernel
theorem dX3_fill_15 : decode cX3_fill 15 = .ok (.iastore, 1) := by decide +kernel
theorem dX3_fill_16 : decode cX3_fill 16 = .ok (.iinc 3 1, 3) := by decide +kernel
theorem dX3_fill_19 : decode cX3_fill 19 = .ok (.goto (-17), 3) := by decide +kernel
theorem dX3_fill_22 : decode cX3_fill 22 = .ok (.return_, 1) := by decide +kernel
theorem dX3_rise_0 : decode cX3_rise 0 = .ok (.aload_n 0, 1) := by decide +kernel
theorem dX3_rise_1 : decode cX3_rise 1 = .ok (.getfield 25, 3) := by decide +kernel
theorem dX3_rise_4 : decode cX3_rise 4 = .ok (.bipush 20, 2) := by decide +kernel
theorem dX3_rise_6 : decode cX3_rise 6 = .ok (.if_icmp .lt 4, 3) := by decide +kernel
theorem dX3_rise_9 : decode cX3_rise 9 = .ok (.return_, 1) := by decide +kernel
theorem dX3_rise_10 : decode cX3_rise 10 = .ok (.aload_n 0, 1) := by decide +kernel
theorem dX3_rise_11 : decode cX3_rise 11 = .ok (.getfield 15, 3) := by decide +kernel
theorem dX3_rise_14 : decode cX3_rise 14 = .ok (.aload_n 0, 1) := by decide +kernel
theorem dX3_rise_15 : decode cX3_rise 15 = .ok (.getfield 25, 3) := by decide +kernel
theorem dX3_rise_18 : decode cX3_rise 18 = .ok (.iload_n 1, 1) := by decide +kernel
theorem dX3_rise_19 : decode cX3_rise 19 = .ok (.iastore, 1) := by decide +kernel
theorem dX3_rise_20 : decode cX3_rise 20 = .ok (.aload_n 0, 1) := by decide +kernel
theorem dX3_rise_21 : decode cX3_rise 21 = .ok (.getfield 18, 3) := by decide +kernel
theorem dX3_rise_24 : decode cX3_rise 24 = .ok (.aload_n 0, 1) := by decide +kernel
theorem dX3_rise_25 : decode cX3_rise 25 = .ok (.getfield 25, 3) := by decide +kernel
theorem dX3_rise_28 : decode cX3_rise 28 = .ok (.iload_n 2, 1) := by decide +kernel
theorem dX3_rise_29 : decode cX3_rise 29 = .ok (.iastore, 1) := by decide +kernel
theorem dX3_rise_30 : decode cX3_rise 30 = .ok (.aload_n 0, 1) := by decide +kernel
theorem dX3_rise_31 : decode cX3_rise 31 = .ok (.dup, 1) := by decide +kernel
theorem dX3_rise_32 : decode cX3_rise 32 = .ok (.getfield 25, 3) := by decide +kernel
theorem dX3_rise_35 : decode cX3_rise 35 = .ok (.iconst 1, 1) := by decide +kernel
theorem dX3_rise_36 : decode cX3_rise 36 = .ok (.iadd, 1) := by decide +kernel
theorem dX3_rise_37 : decode cX3_rise 37 = .ok (.putfield 25, 3) := by decide +kernel
theorem dX3_rise_40 : decode cX3_rise 40 = .ok (.return_, 1) := by decide +kernel
theorem dX3_thousandths_0 : decode cX3_thousandths 0 = .ok (.iconst 1, 1) := by decide +kernel
theorem dX3_thousandths_1 : decode cX3_thousandths 1 = .ok (.istore_n 3, 1) := by decide +kernel
theorem dX3_thousandths_2 : decode cX3_thousandths 2 = .ok (.iconst 0, 1) := by decide +kernel
theorem dX3_thousandths_3 : decode cX3_thousandths 3 = .ok (.istore 4, 2) := by decide +kernel
theorem dX3_thousandths_5 : decode cX3_thousandths 5 = .ok (.iload 4, 2) := by decide +kernel
theorem dX3_thousandths_7 : decode cX3_thousandths 7 = .ok (.iconst 3, 1) := by decide +kernel
theorem dX3_thousandths_8 : decode cX3_thousandths 8 = .ok (.if_icmp .ge 49, 3) := by decide +kernel
theorem dX3_thousandths_11 : decode cX3_thousandths 11 = .ok (.iload_n 1, 1) := by decide +kernel
theorem dX3_thousandths_12 : decode cX3_thousandths 12 = .ok (.iload_n 2, 1) := by decide +kernel
theorem dX3_thousandths_13 : decode cX3_thousandths 13 = .ok (.ixor, 1) := by decide +kernel
theorem dX3_thousandths_14 : decode cX3_thousandths 14 = .ok (.iload 4, 2) := by decide +kernel
theorem dX3_thousandths_16 : decode cX3_thousandths 16 = .ok (.ishr, 1) := by decide +kernel
theorem dX3_thousandths_17 : decode cX3_thousandths 17 = .ok (.iconst 1, 1) := by decide +kernel
theorem dX3_thousandths_18 : decode cX3_thousandths 18 = .ok (.iand, 1) := by decide +kernel
theorem dX3_thousandths_19 : decode cX3_thousandths 19 = .ok (.ifCond .eq 7, 3) := by decide +kernel
theorem dX3_thousandths_22 : decode cX3_thousandths 22 = .ok (.iconst 1, 1) := by decide +kernel
theorem dX3_thousandths_23 : decode cX3_thousandths 23 = .ok (.goto 4, 3) := by decide +kernel
theorem dX3_thousandths_26 : decode cX3_thousandths 26 = .ok (.iconst 0, 1) := by decide +kernel
theorem dX3_thousandths_27 : decode cX3_thousandths 27 = .ok (.istore 5, 2) := by decide +kernel
theorem dX3_thousandths_29 : decode cX3_thousandths 29 = .ok (.iload_n 3, 1) := by decide +kernel
theorem dX3_thousandths_30 : decode cX3_thousandths 30 = .ok (.iload 5, 2) := by decide +kernel
theorem dX3_thousandths_32 : decode cX3_thousandths 32 = .ok (.ifCond .eq 10, 3) := by decide +kernel
theorem dX3_thousandths_35 : decode cX3_thousandths 35 = .ok (.aload_n 0, 1) := by decide +kernel
theorem dX3_thousandths_36 : decode cX3_thousandths 36 = .ok (.getfield 28, 3) := by decide +kernel
theorem dX3_thousandths_39 : decode cX3_thousandths 39 = .ok (.goto 10, 3) := by decide +kernel
theorem dX3_thousandths_42 : decode cX3_thousandths 42 = .ok (.bipush 10, 2) := by decide +kernel
theorem dX3_thousandths_44 : decode cX3_thousandths 44 = .ok (.aload_n 0, 1) := by decide +kernel
theorem dX3_thousandths_45 : decode cX3_thousandths 45 = .ok (.getfield 28, 3) := by decide +kernel
theorem dX3_thousandths_48 : decode cX3_thousandths 48 = .ok (.isub, 1) := by decide +kernel
theorem dX3_thousandths_49 : decode cX3_thousandths 49 = .ok (.imul, 1) := by decide +kernel
theorem dX3_thousandths_50 : decode cX3_thousandths 50 = .ok (.istore_n 3, 1) := by decide +kernel
theorem dX3_thousandths_51 : decode cX3_thousandths 51 = .ok (.iinc 4 1, 3) := by decide +kernel
theorem dX3_thousandths_54 : decode cX3_thousandths 54 = .ok (.goto (-49), 3) := by decide +kernel
theorem dX3_thousandths_57 : decode cX3_thousandths 57 = .ok (.iload_n 3, 1) := by decide +kernel
theorem dX3_thousandths_58 : decode cX3_thousandths 58 = .ok (.ireturn, 1) := by decide +kernel
theorem dX3_draw_0 : decode cX3_draw 0 = .ok (.aload_n 0, 1) := by decide +kernel
theorem dX3_draw_1 : decode cX3_draw 1 = .ok (.aload_n 0, 1) := by decide +kernel
theorem dX3_draw_2 : decode cX3_draw 2 = .ok (.getfield 31, 3) := by decide +kernel
theorem dX3_draw_5 : decode cX3_draw 5 = .ok (.ldc 42, 2) := by decide +kernel
theorem dX3_draw_7 : decode cX3_draw 7 = .ok (.imul, 1) := by decide +kernel
theorem dX3_draw_8 : decode cX3_draw 8 = .ok (.sipush 12345, 3) := by decide +kernel
theorem dX3_draw_11 : decode cX3_draw 11 = .ok (.iadd, 1) := by decide +kernel
theorem dX3_draw_12 : decode cX3_draw 12 = .ok (.putfield 31, 3) := by decide +kernel
theorem dX3_draw_15 : decode cX3_draw 15 = .ok (.aload_n 0, 1) := by decide +kernel
theorem dX3_draw_16 : decode cX3_draw 16 = .ok (.getfield 31, 3) := by decide +kernel
theorem dX3_draw_19 : decode cX3_draw 19 = .ok (.bipush 16, 2) := by decide +kernel
theorem dX3_draw_21 : decode cX3_draw 21 = .ok (.iushr, 1) := by decide +kernel
theorem dX3_draw_22 : decode cX3_draw 22 = .ok (.bipush 10, 2) := by decide +kernel
theorem dX3_draw_24 : decode cX3_draw 24 = .ok (.irem, 1) := by decide +kernel
theorem dX3_draw_25 : decode cX3_draw 25 = .ok (.ireturn, 1) := by decide +kernel
