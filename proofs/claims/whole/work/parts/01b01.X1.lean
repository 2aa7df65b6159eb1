theorem dX1_init_0 : decode cX1_init 0 = .ok (.aload_n 0, 1) := by decide +kernel
theorem dX1_init_1 : decode cX1_init 1 = .ok (.invokespecial 3, 3) := by decide +kernel
theorem dX1_init_4 : decode cX1_init 4 = .ok (.aload_n 0, 1) := by decide +kernel
theorem dX1_init_5 : decode cX1_init 5 = .ok (.bipush 40, 2) := by decide +kernel
theorem dX1_init_7 : decode cX1_init 7 = .ok (.newarray .int, 2) := by decide +kernel
theorem dX1_init_9 : decode cX1_init 9 = .ok (.putfield 9, 3) := by decide +kernel
theorem dX1_init_12 : decode cX1_init 12 = .ok (.aload_n 0, 1) := by decide +kernel
theorem dX1_init_13 : decode cX1_init 13 = .ok (.bipush 8, 2) := by decide +kernel
theorem dX1_init_15 : decode cX1_init 15 = .ok (.newarray .int, 2) := by decide +kernel
theorem dX1_init_17 : decode cX1_init 17 = .ok (.putfield 15, 3) := by decide +kernel
theorem dX1_init_20 : decode cX1_init 20 = .ok (.aload_n 0, 1) := by decide +kernel
theorem dX1_init_21 : decode cX1_init 21 = .ok (.bipush 8, 2) := by decide +kernel
theorem dX1_init_23 : decode cX1_init 23 = .ok (.newarray .int, 2) := by decide +kernel
theorem dX1_init_25 : decode cX1_init 25 = .ok (.putfield 18, 3) := by decide +kernel
theorem dX1_init_28 : decode cX1_init 28 = .ok (.aload_n 0, 1) := by decide +kernel
theorem dX1_init_29 : decode cX1_init 29 = .ok (.bipush 8, 2) := by decide +kernel
theorem dX1_init_31 : decode cX1_init 31 = .ok (.newarray .int, 2) := by decide +kernel
theorem dX1_init_33 : decode cX1_init 33 = .ok (.putfield 21, 3) := by decide +kernel
theorem dX1_init_36 : decode cX1_init 36 = .ok (.aload_n 0, 1) := by decide +kernel
theorem dX1_init_37 : decode cX1_init 37 = .ok (.iconst 0, 1) := by decide +kernel
theorem dX1_init_38 : decode cX1_init 38 = .ok (.putfield 24, 3) := by decide +kernel
theorem dX1_init_41 : decode cX1_init 41 = .ok (.return_, 1) := by decide +kernel
theorem dX1_become_0 : decode cX1_become 0 = .ok (.aload_n 0, 1) := by decide +kernel
theorem dX1_become_1 : decode cX1_become 1 = .ok (.aload_n 1, 1) := by decide +kernel
theorem dX1_become_2 : decode cX1_become 2 = .ok (.getfield 24, 3) := by decide +kernel
theorem dX1_become_5 : decode cX1_become 5 = .ok (.putfield 24, 3) := by decide +kernel
theorem dX1_become_8 : decode cX1_become 8 = .ok (.iconst 0, 1) := by decide +kernel
theorem dX1_become_9 : decode cX1_become 9 = .ok (.istore_n 2, 1) := by decide +kernel
theorem dX1_become_10 : decode cX1_become 10 = .ok (.iload_n 2, 1) := by decide +kernel
theorem dX1_become_11 : decode cX1_become 11 = .ok (.bipush 40, 2) := by decide +kernel
theorem dX1_become_13 : decode cX1_become 13 = .ok (.if_icmp .ge 21, 3) := by decide +kernel
theorem dX1_become_16 : decode cX1_become 16 = .ok (.aload_n 0, 1) := by decide +kernel
theorem dX1_become_17 : decode cX1_become 17 = .ok (.getfield 9, 3) := by decide +kernel
theorem dX1_become_20 : decode cX1_become 20 = .ok (.iload_n 2, 1) := by decide +kernel
theorem dX1_become_21 : decode cX1_become 21 = .ok (.aload_n 1, 1) := by decide +kernel
theorem dX1_become_22 : decode cX1_become 22 = .ok (.getfield 9, 3) := by decide +kernel
theorem dX1_become_25 : decode cX1_become 25 = .ok (.iload_n 2, 1) := by decide +kernel
theorem dX1_become_26 : decode cX1_become 26 = .ok (.iaload, 1) := by decide +kernel
theorem dX1_become_27 : decode cX1_become 27 = .ok (.iastore, 1) := by decide +kernel
theorem dX1_become_28 : decode cX1_become 28 = .ok (.iinc 2 1, 3) := by decide +kernel
theorem dX1_become_31 : decode cX1_become 31 = .ok (.goto (-21), 3) := by decide +kernel
theorem dX1_become_34 : decode cX1_become 34 = .ok (.iconst 0, 1) := by decide +kernel
theorem dX1_become_35 : decode cX1_become 35 = .ok (.istore_n 2, 1) := by decide +kernel
theorem dX1_become_36 : decode cX1_become 36 = .ok (.iload_n 2, 1) := by decide +kernel
theorem dX1_become_37 : decode cX1_become 37 = .ok (.bipush 8, 2) := by decide +kernel
theorem dX1_become_39 : decode cX1_become 39 = .ok (.if_icmp .ge 45, 3) := by decide +kernel
theorem dX1_become_42 : decode cX1_become 42 = .ok (.aload_n 0, 1) := by decide +kernel
theorem dX1_become_43 : decode cX1_become 43 = .ok (.getfield 15, 3) := by decide +kernel
theorem dX1_become_46 : decode cX1_become 46 = .ok (.iload_n 2, 1) := by decide +kernel
theorem dX1_become_47 : decode cX1_become 47 = .ok (.aload_n 1, 1) := by decide +kernel
theorem dX1_become_48 : decode cX1_become 48 = .ok (.getfield 15, 3) := by decide +kernel
theorem dX1_become_51 : decode cX1_become 51 = .ok (.iload_n 2, 1) := by decide +kernel
theorem dX1_become_52 : decode cX1_become 52 = .ok (.iaload, 1) := by decide +kernel
theorem dX1_become_53 : decode cX1_become 53 = .ok (.iastore, 1) := by decide +kernel
theorem dX1_become_54 : decode cX1_become 54 = .ok (.aload_n 0, 1) := by decide +kernel
theorem dX1_become_55 : decode cX1_become 55 = .ok (.getfield 18, 3) := by decide +kernel
theorem dX1_become_58 : decode cX1_become 58 = .ok (.iload_n 2, 1) := by decide +kernel
theorem dX1_become_59 : decode cX1_become 59 = .ok (.aload_n 1, 1) := by decide +kernel
theorem dX1_become_60 : decode cX1_become 60 = .ok (.getfield 18, 3) := by decide +kernel
theorem dX1_become_63 : decode cX1_become 63 = .ok (.iload_n 2, 1) := by decide +kernel
theorem dX1_become_64 : decode cX1_become 64 = .ok (.iaload, 1) := by decide +kernel
theorem dX1_become_65 : decode cX1_become 65 = .ok (.iastore, 1) := by decide +kernel
theorem dX1_become_66 : decode cX1_become 66 = .ok (.aload_n 0, 1) := by decide +kernel
theorem dX1_become_67 : decode cX1_become 67 = .ok (.getfield 21, 3) := by decide +kernel
theorem dX1_become_70 : decode cX1_become 70 = .ok (.iload_n 2, 1) := by decide +kernel
theorem dX1_become_71 : decode cX1_become 71 = .ok (.aload_n 1, 1) := by decide +kernel
theorem dX1_become_72 : decode cX1_become 72 = .ok (.getfield 21, 3) := by decide +kernel
theorem dX1_become_75 : decode cX1_become 75 = .ok (.iload_n 2, 1) := by decide +kernel
theorem dX1_become_76 : decode cX1_become 76 = .ok (.iaload, 1) := by decide +kernel
theorem dX1_become_77 : decode cX1_become 77 = .ok (.iastore, 1) := by decide +kernel
theorem dX1_become_78 : decode cX1_become 78 = .ok (.iinc 2 1, 3) := by decide +kernel
theorem dX1_become_81 : decode cX1_become 81 = .ok (.goto (-45), 3) := by decide +kernel
theorem dX1_become_84 : decode cX1_become 84 = .ok (.return_, 1) := by decide +kernel
theorem dX1_list_0 : decode cX1_list 0 = .ok (.aload_n 0, 1) := by decide +kernel
theorem dX1_list_1 : decode cX1_list 1 = .ok (.getfield 24, 3) := by decide +kernel
theorem dX1_list_4 : decode cX1_list 4 = .ok (.bipush 8, 2) := by decide +kernel
theorem dX1_list_6 : decode cX1_list 6 = .ok (.if_icmp .ge 10, 3) := by decide +kernel
theorem dX1_list_9 : decode cX1_list 9 = .ok (.aload_n 1, 1) := by decide +kernel
theorem dX1_list_10 : decode cX1_list 10 = .ok (.arraylength, 1) := by decide +kernel
theorem dX1_list_11 : decode cX1_list 11 = .ok (.bipush 7, 2) := by decide +kernel
theorem dX1_list_13 : decode cX1_list 13 = .ok (.if_icmp .ge 4, 3) := by decide +kernel
theorem dX1_list_16 : decode cX1_list 16 = .ok (.return_, 1) := by decide +kernel
theorem dX1_list_17 : decode cX1_list 17 = .ok (.iconst 0, 1) := by decide +kernel
theorem dX1_list_18 : decode cX1_list 18 = .ok (.istore_n 2, 1) := by decide +kernel
theorem dX1_list_19 : decode cX1_list 19 = .ok (.iconst 0, 1) := by decide +kernel
theorem dX1_list_20 : decode cX1_list 20 = .ok (.istore_n 3, 1) := by decide +kernel
theorem dX1_list_21 : decode cX1_list 21 = .ok (.iload_n 3, 1) := by decide +kernel
theorem dX1_list_22 : decode cX1_list 22 = .ok (.iconst 5, 1) := by decide +kernel
theorem dX1_list_23 : decode cX1_list 23 = .ok (.if_icmp .ge 31, 3) := by decide +kernel
theorem dX1_list_26 : decode cX1_list 26 = .ok (.aload_n 0, 1) := by decide +kernel
theorem dX1_list_27 : decode cX1_list 27 = .ok (.getfield 9, 3) := by decide +kernel
theorem dX1_list_30 : decode cX1_list 30 = .ok (.aload_n 0, 1) := by decide +kernel
theorem dX1_list_31 : decode cX1_list 31 = .ok (.getfield 24, 3) := by decide +kernel
theorem dX1_list_34 : decode cX1_list 34 = .ok (.iconst 5, 1) := by decide +kernel
theorem dX1_list_35 : decode cX1_list 35 = .ok (.imul, 1) := by decide +kernel
theorem dX1_list_36 : decode cX1_list 36 = .ok (.iload_n 3, 1) := by decide +kernel
theorem dX1_list_37 : decode cX1_list 37 = .ok (.iadd, 1) := by decide +kernel
theorem dX1_list_38 : decode cX1_list 38 = .ok (.aload_n 1, 1) := by decide +kernel
theorem dX1_list_39 : decode cX1_list 39 = .ok (.iload_n 3, 1) := by decide +kernel
theorem dX1_list_40 : decode cX1_list 40 = .ok (.iaload, 1) := by decide +kernel
theorem dX1_list_41 : decode cX1_list 41 = .ok (.iastore, 1) := by decide +kernel
theorem dX1_list_42 : decode cX1_list 42 = .ok (.iload_n 2, 1) := by decide +kernel
theorem dX1_list_43 : decode cX1_list 43 = .ok (.aload_n 1, 1) := by decide +kernel
theorem dX1_list_44 : decode cX1_list 44 = .ok (.iload_n 3, 1) := by decide +kernel
theorem dX1_list_45 : decode cX1_list 45 = .ok (.iaload, 1) := by decide +kernel
theorem dX1_list_46 : decode cX1_list 46 = .ok (.iadd, 1) := by decide +kernel
theorem dX1_list_47 : decode cX1_list 47 = .ok (.istore_n 2, 1) := by decide +kernel
theorem dX1_list_48 : decode cX1_list 48 = .ok (.iinc 3 1, 3) := by decide +kernel
theorem dX1_list_51 : decode cX1_list 51 = .ok (.goto (-30), 3) := by decide +kernel
theorem dX1_list_54 : decode cX1_list 54 = .ok (.aload_n 0, 1) := by decide +kernel
theorem dX1_list_55 : decode cX1_list 55 = .ok (.getfield 15, 3) := by decide +kernel
theorem dX1_list_58 : decode cX1_list 58 = .ok (.aload_n 0, 1) := by decide +kernel
theorem dX1_list_59 : decode cX1_list 59 = .ok (.getfield 24, 3) := by decide +kernel
theorem dX1_list_62 : decode cX1_list 62 = .ok (.iload_n 2, 1) := by decide +kernel
theorem dX1_list_63 : decode cX1_list 63 = .ok (.iastore, 1) := by decide +kernel
theorem dX1_list_64 : decode cX1_list 64 = .ok (.aload_n 0, 1) := by decide +kernel
theorem dX1_list_65 : decode cX1_list 65 = .ok (.getfield 18, 3) := by decide +kernel
theorem dX1_list_68 : decode cX1_list 68 = .ok (.aload_n 0, 1) := by decide +kernel
theorem dX1_list_69 : decode cX1_list 69 = .ok (.getfield 24, 3) := by decide +kernel
theorem dX1_list_72 : decode cX1_list 72 = .ok (.aload_n 1, 1) := by decide +kernel
theorem dX1_list_73 : decode cX1_list 73 = .ok (.iconst 5, 1) := by decide +kernel
theorem dX1_list_74 : decode cX1_list 74 = .ok (.iaload, 1) := by decide +kernel
theorem dX1_list_75 : decode cX1_list 75 = .ok (.iastore, 1) := by decide +kernel
theorem dX1_list_76 : decode cX1_list 76 = .ok (.aload_n 0, 1) := by decide +kernel
theorem dX1_list_77 : decode cX1_list 77 = .ok (.getfield 21, 3) := by decide +kernel
theorem dX1_list_80 : decode cX1_list 80 = .ok (.aload_n 0, 1) := by decide +kernel
theorem dX1_list_81 : decode cX1_list 81 = .ok (.getfield 24, 3) := by decide +kernel
theorem dX1_list_84 : decode cX1_list 84 = .ok (.aload_n 1, 1) := by decide +kernel
theorem dX1_list_85 : decode cX1_list 85 = .ok (.bipush 6, 2) := by decide +kernel
theorem dX1_list_87 : decode cX1_list 87 = .ok (.iaload, 1) := by decide +kernel
theorem dX1_list_88 : decode cX1_list 88 = .ok (.iastore, 1) := by decide +kernel
theorem dX1_list_89 : decode cX1_list 89 = .ok (.aload_n 0, 1) := by decide +kernel
theorem dX1_list_90 : decode cX1_list 90 = .ok (.dup, 1) := by decide +kernel
theorem dX1_list_91 : decode cX1_list 91 = .ok (.getfield 24, 3) := by decide +kernel
theorem dX1_list_94 : decode cX1_list 94 = .ok (.iconst 1, 1) := by decide +kernel
theorem dX1_list_95 : decode cX1_list 95 = .ok (.iadd, 1) := by decide +kernel
theorem dX1_list_96 : decode cX1_list 96 = .ok (.putfield 24, 3) := by decide +kernel
theorem dX1_list_99 : decode cX1_list 99 = .ok (.return_, 1) := by decide +kernel
theorem dX1_lists_0 : decode cX1_lists 0 = .ok (.iload_n 1, 1) := by decide +kernel
theorem dX1_lists_1 : decode cX1_lists 1 = .ok (.ifCond .lt 15, 3) := by decide +kernel
theorem dX1_lists_4 : decode cX1_lists 4 = .ok (.iload_n 1, 1) := by decide +kernel
theorem dX1_lists_5 : decode cX1_lists 5 = .ok (.aload_n 0, 1) := by decide +kernel
theorem dX1_lists_6 : decode cX1_lists 6 = .ok (.getfield 24, 3) := by decide +kernel
theorem dX1_lists_9 : decode cX1_lists 9 = .ok (.if_icmp .ge 7, 3) := by decide +kernel
theorem dX1_lists_12 : decode cX1_lists 12 = .ok (.iconst 1, 1) := by decide +kernel
theorem dX1_lists_13 : decode cX1_lists 13 = .ok (.goto 4, 3) := by decide +kernel
theorem dX1_lists_16 : decode cX1_lists 16 = .ok (.iconst 0, 1) := by decide +kernel
theorem dX1_lists_17 : decode cX1_lists 17 = .ok (.ireturn, 1) := by decide +kernel
theorem dX1_need_0 : decode cX1_need 0 = .ok (.aload_n 0, 1) := by decide +kernel
theorem dX1_need_1 : decode cX1_need 1 = .ok (.getfield 9, 3) := by decide +kernel
theorem dX1_need_4 : decode cX1_need 4 = .ok (.iload_n 1, 1) := by decide +kernel
theorem dX1_need_5 : decode cX1_need 5 = .ok (.iconst 5, 1) := by decide +kernel
theorem dX1_need_6 : decode cX1_need 6 = .ok (.imul, 1) := by decide +kernel
theorem dX1_need_7 : decode cX1_need 7 = .ok (.iload_n 2, 1) := by decide +kernel
theorem dX1_need_8 : decode cX1_need 8 = .ok (.iadd, 1) := by decide +kernel
theorem dX1_need_9 : decode cX1_need 9 = .ok (.iaload, 1) := by decide +kernel
theorem dX1_need_10 : decode cX1_need 10 = .ok (.ireturn, 1) := by decide +kernel
set_option maxRecDepth 20000 in
theorem ggX1_fits_X1_need : GoodIn wsX1_fits wsX1_need := goodIn_r _ [5, 6, 7, 8, 9, 10, 11] (by decide +kernel) (by decide +kernel)
set_option maxRecDepth 20000 in
theorem gX1_fits_X1_need : GoodIn wsX1_fits (wsV RX1 28 RX1 yX1_need wsX1_need) := goodIn_app (goodIn_of _ (by decide +kernel)) ggX1_fits_X1_need
theorem dX1_fits_0 : decode cX1_fits 0 = .ok (.iconst 0, 1) := by decide +kernel
theorem dX1_fits_1 : decode cX1_fits 1 = .ok (.istore_n 3, 1) := by decide +kernel
theorem dX1_fits_2 : decode cX1_fits 2 = .ok (.iload_n 3, 1) := by decide +kernel
theorem dX1_fits_3 : decode cX1_fits 3 = .ok (.iconst 5, 1) := by decide +kernel
theorem dX1_fits_4 : decode cX1_fits 4 = .ok (.if_icmp .ge 23, 3) := by decide +kernel
theorem dX1_fits_7 : decode cX1_fits 7 = .ok (.aload_n 0, 1) := by decide +kernel
theorem dX1_fits_8 : decode cX1_fits 8 = .ok (.iload_n 1, 1) := by decide +kernel
theorem dX1_fits_9 : decode cX1_fits 9 = .ok (.iload_n 3, 1) := by decide +kernel
theorem dX1_fits_10 : decode cX1_fits 10 = .ok (.invokevirtual 28, 3) := by decide +kernel
theorem dX1_fits_13 : decode cX1_fits 13 = .ok (.aload_n 2, 1) := by decide +kernel
theorem dX1_fits_14 : decode cX1_fits 14 = .ok (.iload_n 3, 1) := by decide +kernel
theorem dX1_fits_15 : decode cX1_fits 15 = .ok (.iaload, 1) := by decide +kernel
theorem dX1_fits_16 : decode cX1_fits 16 = .ok (.if_icmp .le 5, 3) := by decide +kernel
theorem dX1_fits_19 : decode cX1_fits 19 = .ok (.iconst 0, 1) := by decide +kernel
theorem dX1_fits_20 : decode cX1_fits 20 = .ok (.ireturn, 1) := by decide +kernel
theorem dX1_fits_21 : decode cX1_fits 21 = .ok (.iinc 3 1, 3) := by decide +kernel
theorem dX1_fits_24 : decode cX1_fits 24 = .ok (.goto (-22), 3) := by decide +kernel
theorem dX1_fits_27 : decode cX1_fits 27 = .ok (.iconst 1, 1) := by decide +kernel
theorem dX1_fits_28 : decode cX1_fits 28 = .ok (.ireturn, 1) := by decide +kernel
set_option maxRecDepth 20000 in
theorem ggX1_take_X1_need : GoodIn wsX1_take wsX1_need := goodIn_r _ [5, 6, 7, 8, 9, 10, 11] (by decide +kernel) (by decide +kernel)
set_option maxRecDepth 20000 in
theorem gX1_take_X1_need : GoodIn wsX1_take (wsV RX1 28 RX1 yX1_need wsX1_need) := goodIn_app (goodIn_of _ (by decide +kernel)) ggX1_take_X1_need
theorem dX1_take_0 : decode cX1_take 0 = .ok (.iconst 0, 1) := by decide +kernel
theorem dX1_take_1 : decode cX1_take 1 = .ok (.istore_n 3, 1) := by decide +kernel
theorem dX1_take_2 : decode cX1_take 2 = .ok (.iload_n 3, 1) := by decide +kernel
theorem dX1_take_3 : decode cX1_take 3 = .ok (.iconst 5, 1) := by decide +kernel
theorem dX1_take_4 : decode cX1_take 4 = .ok (.if_icmp .ge 21, 3) := by decide +kernel
theorem dX1_take_7 : decode cX1_take 7 = .ok (.aload_n 2, 1) := by decide +kernel
theorem dX1_take_8 : decode cX1_take 8 = .ok (.iload_n 3, 1) := by decide +kernel
theorem dX1_take_9 : decode cX1_take 9 = .ok (.dup2, 1) := by decide +kernel
theorem dX1_take_10 : decode cX1_take 10 = .ok (.iaload, 1) := by decide +kernel
theorem dX1_take_11 : decode cX1_take 11 = .ok (.aload_n 0, 1) := by decide +kernel
theorem dX1_take_12 : decode cX1_take 12 = .ok (.iload_n 1, 1) := by decide +kernel
theorem dX1_take_13 : decode cX1_take 13 = .ok (.iload_n 3, 1) := by decide +kernel
theorem dX1_take_14 : decode cX1_take 14 = .ok (.invokevirtual 28, 3) := by decide +kernel
theorem dX1_take_17 : decode cX1_take 17 = .ok (.isub, 1) := by decide +kernel
theorem dX1_take_18 : decode cX1_take 18 = .ok (.iastore, 1) := by decide +kernel
theorem dX1_take_19 : decode cX1_take 19 = .ok (.iinc 3 1, 3) := by decide +kernel
theorem dX1_take_22 : decode cX1_take 22 = .ok (.goto (-20), 3) := by decide +kernel
theorem dX1_take_25 : decode cX1_take 25 = .ok (.return_, 1) := by decide +kernel
set_option maxRecDepth 20000 in
theorem ggX1_putBack_X1_need : GoodIn wsX1_putBack wsX1_need := goodIn_r _ [5, 6, 7, 8, 9, 10, 11] (by decide +kernel) (by decide +kernel)
set_option maxRecDepth 20000 in
theorem gX1_putBack_X1_need : GoodIn wsX1_putBack (wsV RX1 28 RX1 yX1_need wsX1_need) := goodIn_app (goodIn_of _ (by decide +kernel)) ggX1_putBack_X1_need
theorem dX1_putBack_0 : decode cX1_putBack 0 = .ok (.iconst 0, 1) := by decide +kernel
theorem dX1_putBack_1 : decode cX1_putBack 1 = .ok (.istore_n 3, 1) := by decide +kernel
theorem dX1_putBack_2 : decode cX1_putBack 2 = .ok (.iload_n 3, 1) := by decide +kernel
theorem dX1_putBack_3 : decode cX1_putBack 3 = .ok (.iconst 5, 1) := by decide +kernel
theorem dX1_putBack_4 : decode cX1_putBack 4 = .ok (.if_icmp .ge 21, 3) := by decide +kernel
theorem dX1_putBack_7 : decode cX1_putBack 7 = .ok (.aload_n 2, 1) := by decide +kernel
theorem dX1_putBack_8 : decode cX1_putBack 8 = .ok (.iload_n 3, 1) := by decide +kernel
theorem dX1_putBack_9 : decode cX1_putBack 9 = .ok (.dup2, 1) := by decide +kernel
theorem dX1_putBack_10 : decode cX1_putBack 10 = .ok (.iaload, 1) := by decide +kernel
theorem dX1_putBack_11 : decode cX1_putBack 11 = .ok (.aload_n 0, 1) := by decide +kernel
theorem dX1_putBack_12 : decode cX1_putBack 12 = .ok (.iload_n 1, 1) := by decide +kernel
theorem dX1_putBack_13 : decode cX1_putBack 13 = .ok (.iload_n 3, 1) := by decide +kernel
theorem dX1_putBack_14 : decode cX1_putBack 14 = .ok (.invokevirtual 28, 3) := by decide +kernel
theorem dX1_putBack_17 : decode cX1_putBack 17 = .ok (.iadd, 1) := by decide +kernel
theorem dX1_putBack_18 : decode cX1_putBack 18 = .ok (.iastore, 1) := by decide +kernel
theorem dX1_putBack_19 : decode cX1_putBack 19 = .ok (.iinc 3 1, 3) := by decide +kernel
theorem dX1_putBack_22 : decode cX1_putBack 22 = .ok (.goto (-20), 3) := by decide +kernel
theorem dX1_putBack_25 : decode cX1_putBack 25 = .ok (.return_, 1) := by decide +kernel
set_option maxRecDepth 20000 in
theorem ggX1_leanest_X1_fits : GoodIn wsX1_leanest wsX1_fits := goodIn_r _ [7, 8, 9, 10, 6, 11, 12, 13, 14, 15, 16, 17] (by decide +kernel) (by decide +kernel)
set_option maxRecDepth 20000 in
theorem gX1_leanest_X1_fits : GoodIn wsX1_leanest (wsV RX1 32 RX1 yX1_fits wsX1_fits) := goodIn_app (goodIn_of _ (by decide +kernel)) ggX1_leanest_X1_fits
theorem dX1_leanest_0 : decode cX1_leanest 0 = .ok (.iconst (-1), 1) := by decide +kernel
theorem dX1_leanest_1 : decode cX1_leanest 1 = .ok (.istore_n 2, 1) := by decide +kernel
theorem dX1_leanest_2 : decode cX1_leanest 2 = .ok (.iconst 0, 1) := by decide +kernel
theorem dX1_leanest_3 : decode cX1_leanest 3 = .ok (.istore_n 3, 1) := by decide +kernel
theorem dX1_leanest_4 : decode cX1_leanest 4 = .ok (.iload_n 3, 1) := by decide +kernel
theorem dX1_leanest_5 : decode cX1_leanest 5 = .ok (.aload_n 0, 1) := by decide +kernel
theorem dX1_leanest_6 : decode cX1_leanest 6 = .ok (.getfield 24, 3) := by decide +kernel
theorem dX1_leanest_9 : decode cX1_leanest 9 = .ok (.if_icmp .ge 40, 3) := by decide +kernel
theorem dX1_leanest_12 : decode cX1_leanest 12 = .ok (.aload_n 0, 1) := by decide +kernel
theorem dX1_leanest_13 : decode cX1_leanest 13 = .ok (.iload_n 3, 1) := by decide +kernel
theorem dX1_leanest_14 : decode cX1_leanest 14 = .ok (.aload_n 1, 1) := by decide +kernel
theorem dX1_leanest_15 : decode cX1_leanest 15 = .ok (.invokevirtual 32, 3) := by decide +kernel
theorem dX1_leanest_18 : decode cX1_leanest 18 = .ok (.ifCond .eq 25, 3) := by decide +kernel
theorem dX1_leanest_21 : decode cX1_leanest 21 = .ok (.iload_n 2, 1) := by decide +kernel
theorem dX1_leanest_22 : decode cX1_leanest 22 = .ok (.iconst (-1), 1) := by decide +kernel
theorem dX1_leanest_23 : decode cX1_leanest 23 = .ok (.if_icmp .eq 18, 3) := by decide +kernel
theorem dX1_leanest_26 : decode cX1_leanest 26 = .ok (.aload_n 0, 1) := by decide +kernel
theorem dX1_leanest_27 : decode cX1_leanest 27 = .ok (.getfield 15, 3) := by decide +kernel
theorem dX1_leanest_30 : decode cX1_leanest 30 = .ok (.iload_n 3, 1) := by decide +kernel
theorem dX1_leanest_31 : decode cX1_leanest 31 = .ok (.iaload, 1) := by decide +kernel
theorem dX1_leanest_32 : decode cX1_leanest 32 = .ok (.aload_n 0, 1) := by decide +kernel
theorem dX1_leanest_33 : decode cX1_leanest 33 = .ok (.getfield 15, 3) := by decide +kernel
theorem dX1_leanest_36 : decode cX1_leanest 36 = .ok (.iload_n 2, 1) := by decide +kernel
theorem dX1_leanest_37 : decode cX1_leanest 37 = .ok (.iaload, 1) := by decide +kernel
theorem dX1_leanest_38 : decode cX1_leanest 38 = .ok (.if_icmp .ge 5, 3) := by decide +kernel
theorem dX1_leanest_41 : decode cX1_leanest 41 = .ok (.iload_n 3, 1) := by decide +kernel
theorem dX1_leanest_42 : decode cX1_leanest 42 = .ok (.istore_n 2, 1) := by decide +kernel
theorem dX1_leanest_43 : decode cX1_leanest 43 = .ok (.iinc 3 1, 3) := by decide +kernel
theorem dX1_leanest_46 : decode cX1_leanest 46 = .ok (.goto (-42), 3) := by decide +kernel
theorem dX1_leanest_49 : decode cX1_leanest 49 = .ok (.iload_n 2, 1) := by decide +kernel
theorem dX1_leanest_50 : decode cX1_leanest 50 = .ok (.ireturn, 1) := by decide +kernel
theorem dX1_leastSaying_0 : decode cX1_leastSaying 0 = .ok (.iconst 0, 1) := by decide +kernel
theorem dX1_leastSaying_1 : decode cX1_leastSaying 1 = .ok (.istore_n 2, 1) := by decide +kernel
theorem dX1_leastSaying_2 : decode cX1_leastSaying 2 = .ok (.iload_n 2, 1) := by decide +kernel
theorem dX1_leastSaying_3 : decode cX1_leastSaying 3 = .ok (.aload_n 0, 1) := by decide +kernel
theorem dX1_leastSaying_4 : decode cX1_leastSaying 4 = .ok (.getfield 24, 3) := by decide +kernel
theorem dX1_leastSaying_7 : decode cX1_leastSaying 7 = .ok (.if_icmp .ge 21, 3) := by decide +kernel
theorem dX1_leastSaying_10 : decode cX1_leastSaying 10 = .ok (.aload_n 0, 1) := by decide +kernel
theorem dX1_leastSaying_11 : decode cX1_leastSaying 11 = .ok (.getfield 21, 3) := by decide +kernel
theorem dX1_leastSaying_14 : decode cX1_leastSaying 14 = .ok (.iload_n 2, 1) := by decide +kernel
theorem dX1_leastSaying_15 : decode cX1_leastSaying 15 = .ok (.iaload, 1) := by decide +kernel
theorem dX1_leastSaying_16 : decode cX1_leastSaying 16 = .ok (.iload_n 1, 1) := by decide +kernel
theorem dX1_leastSaying_17 : decode cX1_leastSaying 17 = .ok (.if_icmp .ne 5, 3) := by decide +kernel
theorem dX1_leastSaying_20 : decode cX1_leastSaying 20 = .ok (.iload_n 2, 1) := by decide +kernel
theorem dX1_leastSaying_21 : decode cX1_leastSaying 21 = .ok (.ireturn, 1) := by decide +kernel
theorem dX1_leastSaying_22 : decode cX1_leastSaying 22 = .ok (.iinc 2 1, 3) := by decide +kernel
theorem dX1_leastSaying_25 : decode cX1_leastSaying 25 = .ok (.goto (-23), 3) := by decide +kernel
theorem dX1_leastSaying_28 : decode cX1_leastSaying 28 = .ok (.iconst (-1), 1) := by decide +kernel
theorem dX1_leastSaying_29 : decode cX1_leastSaying 29 = .ok (.ireturn, 1) := by decide +kernel
theorem dX1_meaning_0 : decode cX1_meaning 0 = .ok (.iconst 0, 1) := by decide +kernel
theorem dX1_meaning_1 : decode cX1_meaning 1 = .ok (.istore_n 2, 1) := by decide +kernel
theorem dX1_meaning_2 : decode cX1_meaning 2 = .ok (.iload_n 2, 1) := by decide +kernel
theorem dX1_meaning_3 : decode cX1_meaning 3 = .ok (.aload_n 0, 1) := by decide +kernel
theorem dX1_meaning_4 : decode cX1_meaning 4 = .ok (.getfield 24, 3) := by decide +kernel
theorem dX1_meaning_7 : decode cX1_meaning 7 = .ok (.if_icmp .ge 26, 3) := by decide +kernel
theorem dX1_meaning_10 : decode cX1_meaning 10 = .ok (.aload_n 0, 1) := by decide +kernel
theorem dX1_meaning_11 : decode cX1_meaning 11 = .ok (.getfield 18, 3) := by decide +kernel
theorem dX1_meaning_14 : decode cX1_meaning 14 = .ok (.iload_n 2, 1) := by decide +kernel
theorem dX1_meaning_15 : decode cX1_meaning 15 = .ok (.iaload, 1) := by decide +kernel
theorem dX1_meaning_16 : decode cX1_meaning 16 = .ok (.iload_n 1, 1) := by decide +kernel
theorem dX1_meaning_17 : decode cX1_meaning 17 = .ok (.if_icmp .ne 10, 3) := by decide +kernel
theorem dX1_meaning_20 : decode cX1_meaning 20 = .ok (.aload_n 0, 1) := by decide +kernel
theorem dX1_meaning_21 : decode cX1_meaning 21 = .ok (.getfield 21, 3) := by decide +kernel
theorem dX1_meaning_24 : decode cX1_meaning 24 = .ok (.iload_n 2, 1) := by decide +kernel
theorem dX1_meaning_25 : decode cX1_meaning 25 = .ok (.iaload, 1) := by decide +kernel
theorem dX1_meaning_26 : decode cX1_meaning 26 = .ok (.ireturn, 1) := by decide +kernel
theorem dX1_meaning_27 : decode cX1_meaning 27 = .ok (.iinc 2 1, 3) := by decide +kernel
theorem dX1_meaning_30 : decode cX1_meaning 30 = .ok (.goto (-28), 3) := by decide +kernel
theorem dX1_meaning_33 : decode cX1_meaning 33 = .ok (.bipush (-9), 2) := by decide +kernel
theorem dX1_meaning_35 : decode cX1_meaning 35 = .ok (.ireturn, 1) := by decide +kernel
set_option maxRecDepth 20000 in
theorem ggX1_smokeOfAll_X1_holds : GoodIn wsX1_smokeOfAll wsX1_holds := goodIn_r _ [6] (by decide +kernel) (by decide +kernel)
set_option maxRecDepth 20000 in
theorem gX1_smokeOfAll_X1_holds : GoodIn wsX1_smokeOfAll (va_wsS RX1 36 yX1_holds wsX1_holds) := goodIn_app (goodIn_of _ (by decide +kernel)) ggX1_smokeOfAll_X1_holds
theorem dX1_smokeOfAll_0 : decode cX1_smokeOfAll 0 = .ok (.iconst 0, 1) := by decide +kernel
theorem dX1_smokeOfAll_1 : decode cX1_smokeOfAll 1 = .ok (.istore_n 2, 1) := by decide +kernel
theorem dX1_smokeOfAll_2 : decode cX1_smokeOfAll 2 = .ok (.iconst 0, 1) := by decide +kernel
theorem dX1_smokeOfAll_3 : decode cX1_smokeOfAll 3 = .ok (.istore_n 3, 1) := by decide +kernel
theorem dX1_smokeOfAll_4 : decode cX1_smokeOfAll 4 = .ok (.iload_n 3, 1) := by decide +kernel
theorem dX1_smokeOfAll_5 : decode cX1_smokeOfAll 5 = .ok (.aload_n 0, 1) := by decide +kernel
theorem dX1_smokeOfAll_6 : decode cX1_smokeOfAll 6 = .ok (.getfield 24, 3) := by decide +kernel
theorem dX1_smokeOfAll_9 : decode cX1_smokeOfAll 9 = .ok (.if_icmp .ge 26, 3) := by decide +kernel
theorem dX1_smokeOfAll_12 : decode cX1_smokeOfAll 12 = .ok (.iload_n 1, 1) := by decide +kernel
theorem dX1_smokeOfAll_13 : decode cX1_smokeOfAll 13 = .ok (.iload_n 3, 1) := by decide +kernel
theorem dX1_smokeOfAll_14 : decode cX1_smokeOfAll 14 = .ok (.invokestatic 36, 3) := by decide +kernel
theorem dX1_smokeOfAll_17 : decode cX1_smokeOfAll 17 = .ok (.ifCond .eq 12, 3) := by decide +kernel
theorem dX1_smokeOfAll_20 : decode cX1_smokeOfAll 20 = .ok (.iload_n 2, 1) := by decide +kernel
theorem dX1_smokeOfAll_21 : decode cX1_smokeOfAll 21 = .ok (.aload_n 0, 1) := by decide +kernel
theorem dX1_smokeOfAll_22 : decode cX1_smokeOfAll 22 = .ok (.getfield 18, 3) := by decide +kernel
theorem dX1_smokeOfAll_25 : decode cX1_smokeOfAll 25 = .ok (.iload_n 3, 1) := by decide +kernel
theorem dX1_smokeOfAll_26 : decode cX1_smokeOfAll 26 = .ok (.iaload, 1) := by decide +kernel
theorem dX1_smokeOfAll_27 : decode cX1_smokeOfAll 27 = .ok (.ior, 1) := by decide +kernel
theorem dX1_smokeOfAll_28 : decode cX1_smokeOfAll 28 = .ok (.istore_n 2, 1) := by decide +kernel
theorem dX1_smokeOfAll_29 : decode cX1_smokeOfAll 29 = .ok (.iinc 3 1, 3) := by decide +kernel
theorem dX1_smokeOfAll_32 : decode cX1_smokeOfAll 32 = .ok (.goto (-28), 3) := by decide +kernel
theorem dX1_smokeOfAll_35 : decode cX1_smokeOfAll 35 = .ok (.iload_n 2, 1) := by decide +kernel
theorem dX1_smokeOfAll_36 : decode cX1_smokeOfAll 36 = .ok (.ireturn, 1) := by decide +kernel
set_option maxRecDepth 20000 in
theorem ggX1_anySays_X1_holds : GoodIn wsX1_anySays wsX1_holds := goodIn_r _ [6] (by decide +kernel) (by decide +kernel)
set_option maxRecDepth 20000 in
theorem gX1_anySays_X1_holds : GoodIn wsX1_anySays (va_wsS RX1 36 yX1_holds wsX1_holds) := goodIn_app (goodIn_of _ (by decide +kernel)) ggX1_anySays_X1_holds
theorem dX1_anySays_0 : decode cX1_anySays 0 = .ok (.iconst 0, 1) := by decide +kernel
theorem dX1_anySays_1 : decode cX1_anySays 1 = .ok (.istore_n 3, 1) := by decide +kernel
theorem dX1_anySays_2 : decode cX1_anySays 2 = .ok (.iload_n 3, 1) := by decide +kernel
theorem dX1_anySays_3 : decode cX1_anySays 3 = .ok (.aload_n 0, 1) := by decide +kernel
theorem dX1_anySays_4 : decode cX1_anySays 4 = .ok (.getfield 24, 3) := by decide +kernel
theorem dX1_anySays_7 : decode cX1_anySays 7 = .ok (.if_icmp .ge 29, 3) := by decide +kernel
theorem dX1_anySays_10 : decode cX1_anySays 10 = .ok (.iload_n 1, 1) := by decide +kernel
theorem dX1_anySays_11 : decode cX1_anySays 11 = .ok (.iload_n 3, 1) := by decide +kernel
theorem dX1_anySays_12 : decode cX1_anySays 12 = .ok (.invokestatic 36, 3) := by decide +kernel
theorem dX1_anySays_15 : decode cX1_anySays 15 = .ok (.ifCond .eq 15, 3) := by decide +kernel
theorem dX1_anySays_18 : decode cX1_anySays 18 = .ok (.aload_n 0, 1) := by decide +kernel
theorem dX1_anySays_19 : decode cX1_anySays 19 = .ok (.getfield 21, 3) := by decide +kernel
theorem dX1_anySays_22 : decode cX1_anySays 22 = .ok (.iload_n 3, 1) := by decide +kernel
theorem dX1_anySays_23 : decode cX1_anySays 23 = .ok (.iaload, 1) := by decide +kernel
theorem dX1_anySays_24 : decode cX1_anySays 24 = .ok (.iload_n 2, 1) := by decide +kernel
theorem dX1_anySays_25 : decode cX1_anySays 25 = .ok (.if_icmp .ne 5, 3) := by decide +kernel
theorem dX1_anySays_28 : decode cX1_anySays 28 = .ok (.iconst 1, 1) := by decide +kernel
theorem dX1_anySays_29 : decode cX1_anySays 29 = .ok (.ireturn, 1) := by decide +kernel
theorem dX1_anySays_30 : decode cX1_anySays 30 = .ok (.iinc 3 1, 3) := by decide +kernel
theorem dX1_anySays_33 : decode cX1_anySays 33 = .ok (.goto (-31), 3) := by decide +kernel
theorem dX1_anySays_36 : decode cX1_anySays 36 = .ok (.iconst 0, 1) := by decide +kernel
theorem dX1_anySays_37 : decode cX1_anySays 37 = .ok (.ireturn, 1) := by decide +kernel
set_option maxRecDepth 20000 in
theorem ggX1_tellsApart_X1_holds : GoodIn wsX1_tellsApart wsX1_holds := goodIn_r _ [6] (by decide +kernel) (by decide +kernel)
set_option maxRecDepth 20000 in
theorem gX1_tellsApart_X1_holds : GoodIn wsX1_tellsApart (va_wsS RX1 36 yX1_holds wsX1_holds) := goodIn_app (goodIn_of _ (by decide +kernel)) ggX1_tellsApart_X1_holds
set_option maxRecDepth 20000 in
theorem ggX1_tellsApart_X1_standsOff : GoodIn wsX1_tellsApart wsX1_standsOff := goodIn_r _ [10, 11, 3, 4, 5, 6, 12, 13, 14, 15, 16, 17, 18, 19, 20, 21, 22, 23] (by decide +kernel) (by decide +kernel)
set_option maxRecDepth 20000 in
theorem gX1_tellsApart_X1_standsOff : GoodIn wsX1_tellsApart (wsV RX1 40 RX1 yX1_standsOff wsX1_standsOff) := goodIn_app (goodIn_of _ (by decide +kernel)) ggX1_tellsApart_X1_standsOff
theorem dX1_tellsApart_0 : decode cX1_tellsApart 0 = .ok (.iload_n 2, 1) := by decide +kernel
theorem dX1_tellsApart_1 : decode cX1_tellsApart 1 = .ok (.istore 4, 2) := by decide +kernel
theorem dX1_tellsApart_3 : decode cX1_tellsApart 3 = .ok (.iconst 0, 1) := by decide +kernel
theorem dX1_tellsApart_4 : decode cX1_tellsApart 4 = .ok (.istore 5, 2) := by decide +kernel
theorem dX1_tellsApart_6 : decode cX1_tellsApart 6 = .ok (.iload 5, 2) := by decide +kernel
theorem dX1_tellsApart_8 : decode cX1_tellsApart 8 = .ok (.aload_n 0, 1) := by decide +kernel
theorem dX1_tellsApart_9 : decode cX1_tellsApart 9 = .ok (.getfield 24, 3) := by decide +kernel
theorem dX1_tellsApart_12 : decode cX1_tellsApart 12 = .ok (.if_icmp .ge 65, 3) := by decide +kernel
theorem dX1_tellsApart_15 : decode cX1_tellsApart 15 = .ok (.iload_n 1, 1) := by decide +kernel
theorem dX1_tellsApart_16 : decode cX1_tellsApart 16 = .ok (.iload 5, 2) := by decide +kernel
theorem dX1_tellsApart_18 : decode cX1_tellsApart 18 = .ok (.invokestatic 36, 3) := by decide +kernel
theorem dX1_tellsApart_21 : decode cX1_tellsApart 21 = .ok (.ifCond .ne 6, 3) := by decide +kernel
theorem dX1_tellsApart_24 : decode cX1_tellsApart 24 = .ok (.goto 47, 3) := by decide +kernel
theorem dX1_tellsApart_27 : decode cX1_tellsApart 27 = .ok (.iload 4, 2) := by decide +kernel
theorem dX1_tellsApart_29 : decode cX1_tellsApart 29 = .ok (.aload_n 0, 1) := by decide +kernel
theorem dX1_tellsApart_30 : decode cX1_tellsApart 30 = .ok (.getfield 21, 3) := by decide +kernel
theorem dX1_tellsApart_33 : decode cX1_tellsApart 33 = .ok (.iload 5, 2) := by decide +kernel
theorem dX1_tellsApart_35 : decode cX1_tellsApart 35 = .ok (.iaload, 1) := by decide +kernel
theorem dX1_tellsApart_36 : decode cX1_tellsApart 36 = .ok (.invokestatic 36, 3) := by decide +kernel
theorem dX1_tellsApart_39 : decode cX1_tellsApart 39 = .ok (.ifCond .eq 14, 3) := by decide +kernel
theorem dX1_tellsApart_42 : decode cX1_tellsApart 42 = .ok (.aload_n 0, 1) := by decide +kernel
theorem dX1_tellsApart_43 : decode cX1_tellsApart 43 = .ok (.iload_n 1, 1) := by decide +kernel
theorem dX1_tellsApart_44 : decode cX1_tellsApart 44 = .ok (.iload 5, 2) := by decide +kernel
theorem dX1_tellsApart_46 : decode cX1_tellsApart 46 = .ok (.iload_n 3, 1) := by decide +kernel
theorem dX1_tellsApart_47 : decode cX1_tellsApart 47 = .ok (.invokevirtual 40, 3) := by decide +kernel
theorem dX1_tellsApart_50 : decode cX1_tellsApart 50 = .ok (.ifCond .ne 5, 3) := by decide +kernel
theorem dX1_tellsApart_53 : decode cX1_tellsApart 53 = .ok (.iconst 0, 1) := by decide +kernel
theorem dX1_tellsApart_54 : decode cX1_tellsApart 54 = .ok (.ireturn, 1) := by decide +kernel
theorem dX1_tellsApart_55 : decode cX1_tellsApart 55 = .ok (.iload 4, 2) := by decide +kernel
theorem dX1_tellsApart_57 : decode cX1_tellsApart 57 = .ok (.iconst 1, 1) := by decide +kernel
theorem dX1_tellsApart_58 : decode cX1_tellsApart 58 = .ok (.aload_n 0, 1) := by decide +kernel
theorem dX1_tellsApart_59 : decode cX1_tellsApart 59 = .ok (.getfield 21, 3) := by decide +kernel
theorem dX1_tellsApart_62 : decode cX1_tellsApart 62 = .ok (.iload 5, 2) := by decide +kernel
theorem dX1_tellsApart_64 : decode cX1_tellsApart 64 = .ok (.iaload, 1) := by decide +kernel
theorem dX1_tellsApart_65 : decode cX1_tellsApart 65 = .ok (.ishl, 1) := by decide +kernel
theorem dX1_tellsApart_66 : decode cX1_tellsApart 66 = .ok (.iconst (-1), 1) := by decide +kernel
theorem dX1_tellsApart_67 : decode cX1_tellsApart 67 = .ok (.ixor, 1) := by decide +kernel
theorem dX1_tellsApart_68 : decode cX1_tellsApart 68 = .ok (.iand, 1) := by decide +kernel
theorem dX1_tellsApart_69 : decode cX1_tellsApart 69 = .ok (.istore 4, 2) := by decide +kernel
theorem dX1_tellsApart_71 : decode cX1_tellsApart 71 = .ok (.iinc 5 1, 3) := by decide +kernel
theorem dX1_tellsApart_74 : decode cX1_tellsApart 74 = .ok (.goto (-68), 3) := by decide +kernel
theorem dX1_tellsApart_77 : decode cX1_tellsApart 77 = .ok (.iconst 1, 1) := by decide +kernel
theorem dX1_tellsApart_78 : decode cX1_tellsApart 78 = .ok (.ireturn, 1) := by decide +kernel
set_option maxRecDepth 20000 in
theorem ggX1_standsOff_X1_holds : GoodIn wsX1_standsOff wsX1_holds := goodIn_r _ [5] (by decide +kernel) (by decide +kernel)
set_option maxRecDepth 20000 in
theorem gX1_standsOff_X1_holds : GoodIn wsX1_standsOff (va_wsS RX1 36 yX1_holds wsX1_holds) := goodIn_app (goodIn_of _ (by decide +kernel)) ggX1_standsOff_X1_holds
set_option maxRecDepth 20000 in
theorem ggX1_standsOff_J6_bitCount_0f7a4 : GoodIn wsX1_standsOff wsJ6_bitCount_0f7a4 := goodIn_r _ [9, 10, 11, 12] (by decide +kernel) (by decide +kernel)
set_option maxRecDepth 20000 in
theorem gX1_standsOff_J6_bitCount_0f7a4 : GoodIn wsX1_standsOff (va_wsS RX1 44 yJ6_bitCount_0f7a4 wsJ6_bitCount_0f7a4) := goodIn_app (goodIn_of _ (by decide +kernel)) ggX1_standsOff_J6_bitCount_0f7a4
theorem dX1_standsOff_0 : decode cX1_standsOff 0 = .ok (.iconst 0, 1) := by decide +kernel
theorem dX1_standsOff_1 : decode cX1_standsOff 1 = .ok (.istore 4, 2) := by decide +kernel
theorem dX1_standsOff_3 : decode cX1_standsOff 3 = .ok (.iload 4, 2) := by decide +kernel
theorem dX1_standsOff_5 : decode cX1_standsOff 5 = .ok (.iload_n 2, 1) := by decide +kernel
theorem dX1_standsOff_6 : decode cX1_standsOff 6 = .ok (.if_icmp .ge 41, 3) := by decide +kernel
theorem dX1_standsOff_9 : decode cX1_standsOff 9 = .ok (.iload_n 1, 1) := by decide +kernel
theorem dX1_standsOff_10 : decode cX1_standsOff 10 = .ok (.iload 4, 2) := by decide +kernel
theorem dX1_standsOff_12 : decode cX1_standsOff 12 = .ok (.invokestatic 36, 3) := by decide +kernel
theorem dX1_standsOff_15 : decode cX1_standsOff 15 = .ok (.ifCond .eq 26, 3) := by decide +kernel
theorem dX1_standsOff_18 : decode cX1_standsOff 18 = .ok (.aload_n 0, 1) := by decide +kernel
theorem dX1_standsOff_19 : decode cX1_standsOff 19 = .ok (.getfield 18, 3) := by decide +kernel
theorem dX1_standsOff_22 : decode cX1_standsOff 22 = .ok (.iload 4, 2) := by decide +kernel
theorem dX1_standsOff_24 : decode cX1_standsOff 24 = .ok (.iaload, 1) := by decide +kernel
theorem dX1_standsOff_25 : decode cX1_standsOff 25 = .ok (.aload_n 0, 1) := by decide +kernel
theorem dX1_standsOff_26 : decode cX1_standsOff 26 = .ok (.getfield 18, 3) := by decide +kernel
theorem dX1_standsOff_29 : decode cX1_standsOff 29 = .ok (.iload_n 2, 1) := by decide +kernel
theorem dX1_standsOff_30 : decode cX1_standsOff 30 = .ok (.iaload, 1) := by decide +kernel
theorem dX1_standsOff_31 : decode cX1_standsOff 31 = .ok (.ixor, 1) := by decide +kernel
theorem dX1_standsOff_32 : decode cX1_standsOff 32 = .ok (.invokestatic 44, 3) := by decide +kernel
theorem dX1_standsOff_35 : decode cX1_standsOff 35 = .ok (.iload_n 3, 1) := by decide +kernel
theorem dX1_standsOff_36 : decode cX1_standsOff 36 = .ok (.if_icmp .ge 5, 3) := by decide +kernel
theorem dX1_standsOff_39 : decode cX1_standsOff 39 = .ok (.iconst 0, 1) := by decide +kernel
theorem dX1_standsOff_40 : decode cX1_standsOff 40 = .ok (.ireturn, 1) := by decide +kernel
theorem dX1_standsOff_41 : decode cX1_standsOff 41 = .ok (.iinc 4 1, 3) := by decide +kernel
theorem dX1_standsOff_44 : decode cX1_standsOff 44 = .ok (.goto (-41), 3) := by decide +kernel
theorem dX1_standsOff_47 : decode cX1_standsOff 47 = .ok (.iconst 1, 1) := by decide +kernel
theorem dX1_standsOff_48 : decode cX1_standsOff 48 = .ok (.ireturn, 1) := by decide +kernel
theorem dX1_holds_0 : decode cX1_holds 0 = .ok (.iload_n 0, 1) := by decide +kernel
theorem dX1_holds_1 : decode cX1_holds 1 = .ok (.iload_n 1, 1) := by decide +kernel
theorem dX1_holds_2 : decode cX1_holds 2 = .ok (.ishr, 1) := by decide +kernel
theorem dX1_holds_3 : decode cX1_holds 3 = .ok (.iconst 1, 1) := by decide +kernel
theorem dX1_holds_4 : decode cX1_holds 4 = .ok (.iand, 1) := by decide +kernel
theorem dX1_holds_5 : decode cX1_holds 5 = .ok (.ifCond .eq 7, 3) := by decide +kernel
theorem dX1_holds_8 : decode cX1_holds 8 = .ok (.iconst 1, 1) := by decide +kernel
theorem dX1_holds_9 : decode cX1_holds 9 = .ok (.goto 4, 3) := by decide +kernel
theorem dX1_holds_12 : decode cX1_holds 12 = .ok (.iconst 0, 1) := by decide +kernel
theorem dX1_holds_13 : decode cX1_holds 13 = .ok (.ireturn, 1) := by decide +kernel
