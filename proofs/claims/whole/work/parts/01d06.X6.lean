theorem dX6_drawn_1 : decode cX6_drawn 1 = .ok (.invokestatic 182, 3) := by decide +kernel
theorem dX6_drawn_4 : decode cX6_drawn 4 = .ok (.ifCond .ne 5, 3) := by decide +kernel
theorem dX6_drawn_7 : decode cX6_drawn 7 = .ok (.iconst (-1), 1) := by decide +kernel
theorem dX6_drawn_8 : decode cX6_drawn 8 = .ok (.ireturn, 1) := by decide +kernel
theorem dX6_drawn_9 : decode cX6_drawn 9 = .ok (.iload_n 1, 1) := by decide +kernel
theorem dX6_drawn_10 : decode cX6_drawn 10 = .ok (.istore_n 2, 1) := by decide +kernel
theorem dX6_drawn_11 : decode cX6_drawn 11 = .ok (.iconst 0, 1) := by decide +kernel
theorem dX6_drawn_12 : decode cX6_drawn 12 = .ok (.istore_n 3, 1) := by decide +kernel
theorem dX6_drawn_13 : decode cX6_drawn 13 = .ok (.iload_n 3, 1) := by decide +kernel
theorem dX6_drawn_14 : decode cX6_drawn 14 = .ok (.iconst 3, 1) := by decide +kernel
theorem dX6_drawn_15 : decode cX6_drawn 15 = .ok (.if_icmp .ge 32, 3) := by decide +kernel
theorem dX6_drawn_18 : decode cX6_drawn 18 = .ok (.aload_n 0, 1) := by decide +kernel
theorem dX6_drawn_19 : decode cX6_drawn 19 = .ok (.getfield 33, 3) := by decide +kernel
theorem dX6_drawn_22 : decode cX6_drawn 22 = .ok (.invokevirtual 249, 3) := by decide +kernel
theorem dX6_drawn_25 : decode cX6_drawn 25 = .ok (.aload_n 0, 1) := by decide +kernel
theorem dX6_drawn_26 : decode cX6_drawn 26 = .ok (.getfield 33, 3) := by decide +kernel
theorem dX6_drawn_29 : decode cX6_drawn 29 = .ok (.getfield 151, 3) := by decide +kernel
theorem dX6_drawn_32 : decode cX6_drawn 32 = .ok (.if_icmp .ge 9, 3) := by decide +kernel
theorem dX6_drawn_35 : decode cX6_drawn 35 = .ok (.iload_n 2, 1) := by decide +kernel
theorem dX6_drawn_36 : decode cX6_drawn 36 = .ok (.iconst 1, 1) := by decide +kernel
theorem dX6_drawn_37 : decode cX6_drawn 37 = .ok (.iload_n 3, 1) := by decide +kernel
theorem dX6_drawn_38 : decode cX6_drawn 38 = .ok (.ishl, 1) := by decide +kernel
theorem dX6_drawn_39 : decode cX6_drawn 39 = .ok (.ixor, 1) := by decide +kernel
theorem dX6_drawn_40 : decode cX6_drawn 40 = .ok (.istore_n 2, 1) := by decide +kernel
theorem dX6_drawn_41 : decode cX6_drawn 41 = .ok (.iinc 3 1, 3) := by decide +kernel
theorem dX6_drawn_44 : decode cX6_drawn 44 = .ok (.goto (-31), 3) := by decide +kernel
theorem dX6_drawn_47 : decode cX6_drawn 47 = .ok (.iload_n 2, 1) := by decide +kernel
theorem dX6_drawn_48 : decode cX6_drawn 48 = .ok (.ireturn, 1) := by decide +kernel
theorem dX6_lot_0 : decode cX6_lot 0 = .ok (.aload_n 0, 1) := by decide +kernel
theorem dX6_lot_1 : decode cX6_lot 1 = .ok (.getfield 33, 3) := by decide +kernel
theorem dX6_lot_4 : decode cX6_lot 4 = .ok (.getfield 88, 3) := by decide +kernel
theorem dX6_lot_7 : decode cX6_lot 7 = .ok (.istore_n 2, 1) := by decide +kernel
theorem dX6_lot_8 : decode cX6_lot 8 = .ok (.aload_n 0, 1) := by decide +kernel
theorem dX6_lot_9 : decode cX6_lot 9 = .ok (.getfield 33, 3) := by decide +kernel
theorem dX6_lot_12 : decode cX6_lot 12 = .ok (.iload_n 1, 1) := by decide +kernel
theorem dX6_lot_13 : decode cX6_lot 13 = .ok (.putfield 88, 3) := by decide +kernel
theorem dX6_lot_16 : decode cX6_lot 16 = .ok (.iload_n 2, 1) := by decide +kernel
theorem dX6_lot_17 : decode cX6_lot 17 = .ok (.ireturn, 1) := by decide +kernel
theorem dX6_mark_0 : decode cX6_mark 0 = .ok (.aload_n 0, 1) := by decide +kernel
theorem dX6_mark_1 : decode cX6_mark 1 = .ok (.getfield 26, 3) := by decide +kernel
theorem dX6_mark_4 : decode cX6_mark 4 = .ok (.iload_n 2, 1) := by decide +kernel
theorem dX6_mark_5 : decode cX6_mark 5 = .ok (.invokevirtual 110, 3) := by decide +kernel
theorem dX6_mark_8 : decode cX6_mark 8 = .ok (.ifCond .ne 6, 3) := by decide +kernel
theorem dX6_mark_11 : decode cX6_mark 11 = .ok (.ldc 253, 2) := by decide +kernel
theorem dX6_mark_13 : decode cX6_mark 13 = .ok (.ireturn, 1) := by decide +kernel
theorem dX6_mark_14 : decode cX6_mark 14 = .ok (.iload_n 1, 1) := by decide +kernel
theorem dX6_mark_15 : decode cX6_mark 15 = .ok (.tableswitch 73 0 5 #[37, 43, 49, 55, 61, 67], 37) := by decide +kernel
theorem dX6_mark_52 : decode cX6_mark 52 = .ok (.aload_n 0, 1) := by decide +kernel
theorem dX6_mark_53 : decode cX6_mark 53 = .ok (.iload_n 2, 1) := by decide +kernel
theorem dX6_mark_54 : decode cX6_mark 54 = .ok (.invokevirtual 254, 3) := by decide +kernel
theorem dX6_mark_57 : decode cX6_mark 57 = .ok (.ireturn, 1) := by decide +kernel
theorem dX6_mark_58 : decode cX6_mark 58 = .ok (.aload_n 0, 1) := by decide +kernel
theorem dX6_mark_59 : decode cX6_mark 59 = .ok (.iload_n 2, 1) := by decide +kernel
theorem dX6_mark_60 : decode cX6_mark 60 = .ok (.invokevirtual 257, 3) := by decide +kernel
theorem dX6_mark_63 : decode cX6_mark 63 = .ok (.ireturn, 1) := by decide +kernel
theorem dX6_mark_64 : decode cX6_mark 64 = .ok (.aload_n 0, 1) := by decide +kernel
theorem dX6_mark_65 : decode cX6_mark 65 = .ok (.iload_n 2, 1) := by decide +kernel
theorem dX6_mark_66 : decode cX6_mark 66 = .ok (.invokevirtual 260, 3) := by decide +kernel
theorem dX6_mark_69 : decode cX6_mark 69 = .ok (.ireturn, 1) := by decide +kernel
theorem dX6_mark_70 : decode cX6_mark 70 = .ok (.aload_n 0, 1) := by decide +kernel
theorem dX6_mark_71 : decode cX6_mark 71 = .ok (.iload_n 2, 1) := by decide +kernel
theorem dX6_mark_72 : decode cX6_mark 72 = .ok (.invokevirtual 263, 3) := by decide +kernel
theorem dX6_mark_75 : decode cX6_mark 75 = .ok (.ireturn, 1) := by decide +kernel
theorem dX6_mark_76 : decode cX6_mark 76 = .ok (.aload_n 0, 1) := by decide +kernel
theorem dX6_mark_77 : decode cX6_mark 77 = .ok (.iload_n 2, 1) := by decide +kernel
theorem dX6_mark_78 : decode cX6_mark 78 = .ok (.invokevirtual 266, 3) := by decide +kernel
theorem dX6_mark_81 : decode cX6_mark 81 = .ok (.ireturn, 1) := by decide +kernel
theorem dX6_mark_82 : decode cX6_mark 82 = .ok (.aload_n 0, 1) := by decide +kernel
theorem dX6_mark_83 : decode cX6_mark 83 = .ok (.iload_n 2, 1) := by decide +kernel
theorem dX6_mark_84 : decode cX6_mark 84 = .ok (.invokevirtual 269, 3) := by decide +kernel
theorem dX6_mark_87 : decode cX6_mark 87 = .ok (.ireturn, 1) := by decide +kernel
theorem dX6_mark_88 : decode cX6_mark 88 = .ok (.ldc 253, 2) := by decide +kernel
theorem dX6_mark_90 : decode cX6_mark 90 = .ok (.ireturn, 1) := by decide +kernel
theorem dX6_keep_0 : decode cX6_keep 0 = .ok (.iload_n 1, 1) := by decide +kernel
theorem dX6_keep_1 : decode cX6_keep 1 = .ok (.ifCond .lt 8, 3) := by decide +kernel
theorem dX6_keep_4 : decode cX6_keep 4 = .ok (.iload_n 1, 1) := by decide +kernel
theorem dX6_keep_5 : decode cX6_keep 5 = .ok (.iconst 2, 1) := by decide +kernel
theorem dX6_keep_6 : decode cX6_keep 6 = .ok (.if_icmp .lt 5, 3) := by decide +kernel
theorem dX6_keep_9 : decode cX6_keep 9 = .ok (.iconst (-1), 1) := by decide +kernel
theorem dX6_keep_10 : decode cX6_keep 10 = .ok (.ireturn, 1) := by decide +kernel
theorem dX6_keep_11 : decode cX6_keep 11 = .ok (.aload_n 0, 1) := by decide +kernel
theorem dX6_keep_12 : decode cX6_keep 12 = .ok (.iload_n 1, 1) := by decide +kernel
theorem dX6_keep_13 : decode cX6_keep 13 = .ok (.invokevirtual 272, 3) := by decide +kernel
theorem dX6_keep_16 : decode cX6_keep 16 = .ok (.astore_n 2, 1) := by decide +kernel
theorem dX6_keep_17 : decode cX6_keep 17 = .ok (.aload_n 2, 1) := by decide +kernel
theorem dX6_keep_18 : decode cX6_keep 18 = .ok (.aload_n 0, 1) := by decide +kernel
theorem dX6_keep_19 : decode cX6_keep 19 = .ok (.getfield 33, 3) := by decide +kernel
theorem dX6_keep_22 : decode cX6_keep 22 = .ok (.invokevirtual 91, 3) := by decide +kernel
theorem dX6_keep_25 : decode cX6_keep 25 = .ok (.aload_n 2, 1) := by decide +kernel
theorem dX6_keep_26 : decode cX6_keep 26 = .ok (.iconst 1, 1) := by decide +kernel
theorem dX6_keep_27 : decode cX6_keep 27 = .ok (.putfield 94, 3) := by decide +kernel
theorem dX6_keep_30 : decode cX6_keep 30 = .ok (.aload_n 2, 1) := by decide +kernel
theorem dX6_keep_31 : decode cX6_keep 31 = .ok (.getfield 129, 3) := by decide +kernel
theorem dX6_keep_34 : decode cX6_keep 34 = .ok (.ireturn, 1) := by decide +kernel
theorem dX6_back_0 : decode cX6_back 0 = .ok (.iload_n 1, 1) := by decide +kernel
theorem dX6_back_1 : decode cX6_back 1 = .ok (.ifCond .lt 8, 3) := by decide +kernel
theorem dX6_back_4 : decode cX6_back 4 = .ok (.iload_n 1, 1) := by decide +kernel
theorem dX6_back_5 : decode cX6_back 5 = .ok (.iconst 2, 1) := by decide +kernel
theorem dX6_back_6 : decode cX6_back 6 = .ok (.if_icmp .lt 5, 3) := by decide +kernel
theorem dX6_back_9 : decode cX6_back 9 = .ok (.iconst (-1), 1) := by decide +kernel
theorem dX6_back_10 : decode cX6_back 10 = .ok (.ireturn, 1) := by decide +kernel
theorem dX6_back_11 : decode cX6_back 11 = .ok (.aload_n 0, 1) := by decide +kernel
theorem dX6_back_12 : decode cX6_back 12 = .ok (.iload_n 1, 1) := by decide +kernel
theorem dX6_back_13 : decode cX6_back 13 = .ok (.invokevirtual 272, 3) := by decide +kernel
theorem dX6_back_16 : decode cX6_back 16 = .ok (.astore_n 2, 1) := by decide +kernel
theorem dX6_back_17 : decode cX6_back 17 = .ok (.aload_n 2, 1) := by decide +kernel
theorem dX6_back_18 : decode cX6_back 18 = .ok (.getfield 94, 3) := by decide +kernel
theorem dX6_back_21 : decode cX6_back 21 = .ok (.ifCond .ne 6, 3) := by decide +kernel
theorem dX6_back_24 : decode cX6_back 24 = .ok (.bipush (-2), 2) := by decide +kernel
theorem dX6_back_26 : decode cX6_back 26 = .ok (.ireturn, 1) := by decide +kernel
theorem dX6_back_27 : decode cX6_back 27 = .ok (.aload_n 0, 1) := by decide +kernel
theorem dX6_back_28 : decode cX6_back 28 = .ok (.getfield 33, 3) := by decide +kernel
theorem dX6_back_31 : decode cX6_back 31 = .ok (.aload_n 2, 1) := by decide +kernel
theorem dX6_back_32 : decode cX6_back 32 = .ok (.invokevirtual 91, 3) := by decide +kernel
theorem dX6_back_35 : decode cX6_back 35 = .ok (.aload_n 0, 1) := by decide +kernel
theorem dX6_back_36 : decode cX6_back 36 = .ok (.getfield 33, 3) := by decide +kernel
theorem dX6_back_39 : decode cX6_back 39 = .ok (.getfield 129, 3) := by decide +kernel
theorem dX6_back_42 : decode cX6_back 42 = .ok (.ireturn, 1) := by decide +kernel
theorem dX6_count_0 : decode cX6_count 0 = .ok (.iload_n 1, 1) := by decide +kernel
theorem dX6_count_1 : decode cX6_count 1 = .ok (.tableswitch 75 0 4 #[35, 43, 51, 59, 67], 35) := by decide +kernel
theorem dX6_count_36 : decode cX6_count 36 = .ok (.aload_n 0, 1) := by decide +kernel
theorem dX6_count_37 : decode cX6_count 37 = .ok (.getfield 33, 3) := by decide +kernel
theorem dX6_count_40 : decode cX6_count 40 = .ok (.getfield 216, 3) := by decide +kernel
theorem dX6_count_43 : decode cX6_count 43 = .ok (.ireturn, 1) := by decide +kernel
theorem dX6_count_44 : decode cX6_count 44 = .ok (.aload_n 0, 1) := by decide +kernel
theorem dX6_count_45 : decode cX6_count 45 = .ok (.getfield 26, 3) := by decide +kernel
theorem dX6_count_48 : decode cX6_count 48 = .ok (.getfield 234, 3) := by decide +kernel
theorem dX6_count_51 : decode cX6_count 51 = .ok (.ireturn, 1) := by decide +kernel
theorem dX6_count_52 : decode cX6_count 52 = .ok (.aload_n 0, 1) := by decide +kernel
theorem dX6_count_53 : decode cX6_count 53 = .ok (.getfield 33, 3) := by decide +kernel
theorem dX6_count_56 : decode cX6_count 56 = .ok (.getfield 129, 3) := by decide +kernel
theorem dX6_count_59 : decode cX6_count 59 = .ok (.ireturn, 1) := by decide +kernel
theorem dX6_count_60 : decode cX6_count 60 = .ok (.aload_n 0, 1) := by decide +kernel
theorem dX6_count_61 : decode cX6_count 61 = .ok (.getfield 33, 3) := by decide +kernel
theorem dX6_count_64 : decode cX6_count 64 = .ok (.getfield 151, 3) := by decide +kernel
theorem dX6_count_67 : decode cX6_count 67 = .ok (.ireturn, 1) := by decide +kernel
theorem dX6_count_68 : decode cX6_count 68 = .ok (.aload_n 0, 1) := by decide +kernel
theorem dX6_count_69 : decode cX6_count 69 = .ok (.getfield 10, 3) := by decide +kernel
theorem dX6_count_72 : decode cX6_count 72 = .ok (.getfield 65, 3) := by decide +kernel
theorem dX6_count_75 : decode cX6_count 75 = .ok (.ireturn, 1) := by decide +kernel
theorem dX6_count_76 : decode cX6_count 76 = .ok (.iconst (-1), 1) := by decide +kernel
theorem dX6_count_77 : decode cX6_count 77 = .ok (.ireturn, 1) := by decide +kernel
theorem dX6_trace_0 : decode cX6_trace 0 = .ok (.aload_n 0, 1) := by decide +kernel
theorem dX6_trace_1 : decode cX6_trace 1 = .ok (.getfield 61, 3) := by decide +kernel
theorem dX6_trace_4 : decode cX6_trace 4 = .ok (.lreturn, 1) := by decide +kernel
theorem dX6_isSmoke_0 : decode cX6_isSmoke 0 = .ok (.iload_n 0, 1) := by decide +kernel
theorem dX6_isSmoke_1 : decode cX6_isSmoke 1 = .ok (.ifCond .lt 13, 3) := by decide +kernel
theorem dX6_isSmoke_4 : decode cX6_isSmoke 4 = .ok (.iload_n 0, 1) := by decide +kernel
theorem dX6_isSmoke_5 : decode cX6_isSmoke 5 = .ok (.bipush 8, 2) := by decide +kernel
theorem dX6_isSmoke_7 : decode cX6_isSmoke 7 = .ok (.if_icmp .ge 7, 3) := by decide +kernel
theorem dX6_isSmoke_10 : decode cX6_isSmoke 10 = .ok (.iconst 1, 1) := by decide +kernel
theorem dX6_isSmoke_11 : decode cX6_isSmoke 11 = .ok (.goto 4, 3) := by decide +kernel
theorem dX6_isSmoke_14 : decode cX6_isSmoke 14 = .ok (.iconst 0, 1) := by decide +kernel
theorem dX6_isSmoke_15 : decode cX6_isSmoke 15 = .ok (.ireturn, 1) := by decide +kernel
theorem dX6_isWord_0 : decode cX6_isWord 0 = .ok (.iload_n 0, 1) := by decide +kernel
theorem dX6_isWord_1 : decode cX6_isWord 1 = .ok (.ifCond .lt 13, 3) := by decide +kernel
theorem dX6_isWord_4 : decode cX6_isWord 4 = .ok (.iload_n 0, 1) := by decide +kernel
theorem dX6_isWord_5 : decode cX6_isWord 5 = .ok (.bipush 8, 2) := by decide +kernel
theorem dX6_isWord_7 : decode cX6_isWord 7 = .ok (.if_icmp .ge 7, 3) := by decide +kernel
theorem dX6_isWord_10 : decode cX6_isWord 10 = .ok (.iconst 1, 1) := by decide +kernel
theorem dX6_isWord_11 : decode cX6_isWord 11 = .ok (.goto 4, 3) := by decide +kernel
theorem dX6_isWord_14 : decode cX6_isWord 14 = .ok (.iconst 0, 1) := by decide +kernel
theorem dX6_isWord_15 : decode cX6_isWord 15 = .ok (.ireturn, 1) := by decide +kernel
theorem dX6_isRow_0 : decode cX6_isRow 0 = .ok (.iload_n 0, 1) := by decide +kernel
theorem dX6_isRow_1 : decode cX6_isRow 1 = .ok (.invokestatic 191, 3) := by decide +kernel
theorem dX6_isRow_4 : decode cX6_isRow 4 = .ok (.ifCond .ne 5, 3) := by decide +kernel
theorem dX6_isRow_7 : decode cX6_isRow 7 = .ok (.iconst 0, 1) := by decide +kernel
theorem dX6_isRow_8 : decode cX6_isRow 8 = .ok (.ireturn, 1) := by decide +kernel
theorem dX6_isRow_9 : decode cX6_isRow 9 = .ok (.iload_n 1, 1) := by decide +kernel
theorem dX6_isRow_10 : decode cX6_isRow 10 = .ok (.iconst (-1), 1) := by decide +kernel
theorem dX6_isRow_11 : decode cX6_isRow 11 = .ok (.if_icmp .ne 14, 3) := by decide +kernel
theorem dX6_isRow_14 : decode cX6_isRow 14 = .ok (.iload_n 2, 1) := by decide +kernel
theorem dX6_isRow_15 : decode cX6_isRow 15 = .ok (.iconst (-1), 1) := by decide +kernel
theorem dX6_isRow_16 : decode cX6_isRow 16 = .ok (.if_icmp .ne 7, 3) := by decide +kernel
theorem dX6_isRow_19 : decode cX6_isRow 19 = .ok (.iconst 1, 1) := by decide +kernel
theorem dX6_isRow_20 : decode cX6_isRow 20 = .ok (.goto 4, 3) := by decide +kernel
theorem dX6_isRow_23 : decode cX6_isRow 23 = .ok (.iconst 0, 1) := by decide +kernel
theorem dX6_isRow_24 : decode cX6_isRow 24 = .ok (.ireturn, 1) := by decide +kernel
theorem dX6_isRow_25 : decode cX6_isRow 25 = .ok (.iload_n 1, 1) := by decide +kernel
theorem dX6_isRow_26 : decode cX6_isRow 26 = .ok (.invokestatic 191, 3) := by decide +kernel
theorem dX6_isRow_29 : decode cX6_isRow 29 = .ok (.ifCond .eq 19, 3) := by decide +kernel
theorem dX6_isRow_32 : decode cX6_isRow 32 = .ok (.iload_n 2, 1) := by decide +kernel
theorem dX6_isRow_33 : decode cX6_isRow 33 = .ok (.iconst (-1), 1) := by decide +kernel
theorem dX6_isRow_34 : decode cX6_isRow 34 = .ok (.if_icmp .eq 10, 3) := by decide +kernel
theorem dX6_isRow_37 : decode cX6_isRow 37 = .ok (.iload_n 2, 1) := by decide +kernel
theorem dX6_isRow_38 : decode cX6_isRow 38 = .ok (.invokestatic 191, 3) := by decide +kernel
theorem dX6_isRow_41 : decode cX6_isRow 41 = .ok (.ifCond .eq 7, 3) := by decide +kernel
theorem dX6_isRow_44 : decode cX6_isRow 44 = .ok (.iconst 1, 1) := by decide +kernel
theorem dX6_isRow_45 : decode cX6_isRow 45 = .ok (.goto 4, 3) := by decide +kernel
theorem dX6_isRow_48 : decode cX6_isRow 48 = .ok (.iconst 0, 1) := by decide +kernel
theorem dX6_isRow_49 : decode cX6_isRow 49 = .ok (.ireturn, 1) := by decide +kernel
theorem dX6_couldCook_0 : decode cX6_couldCook 0 = .ok (.aload_n 0, 1) := by decide +kernel
theorem dX6_couldCook_1 : decode cX6_couldCook 1 = .ok (.getfield 33, 3) := by decide +kernel
theorem dX6_couldCook_4 : decode cX6_couldCook 4 = .ok (.iload_n 1, 1) := by decide +kernel
theorem dX6_couldCook_5 : decode cX6_couldCook 5 = .ok (.aload_n 0, 1) := by decide +kernel
theorem dX6_couldCook_6 : decode cX6_couldCook 6 = .ok (.getfield 57, 3) := by decide +kernel
theorem dX6_couldCook_9 : decode cX6_couldCook 9 = .ok (.invokevirtual 164, 3) := by decide +kernel
theorem dX6_couldCook_12 : decode cX6_couldCook 12 = .ok (.aload_n 0, 1) := by decide +kernel
theorem dX6_couldCook_13 : decode cX6_couldCook 13 = .ok (.getfield 26, 3) := by decide +kernel
theorem dX6_couldCook_16 : decode cX6_couldCook 16 = .ok (.iload_n 2, 1) := by decide +kernel
theorem dX6_couldCook_17 : decode cX6_couldCook 17 = .ok (.aload_n 0, 1) := by decide +kernel
theorem dX6_couldCook_18 : decode cX6_couldCook 18 = .ok (.getfield 57, 3) := by decide +kernel
theorem dX6_couldCook_21 : decode cX6_couldCook 21 = .ok (.invokevirtual 276, 3) := by decide +kernel
theorem dX6_couldCook_24 : decode cX6_couldCook 24 = .ok (.ireturn, 1) := by decide +kernel
theorem dX6_weightOf_0 : decode cX6_weightOf 0 = .ok (.aload_n 0, 1) := by decide +kernel
theorem dX6_weightOf_1 : decode cX6_weightOf 1 = .ok (.getfield 33, 3) := by decide +kernel
theorem dX6_weightOf_4 : decode cX6_weightOf 4 = .ok (.iload_n 1, 1) := by decide +kernel
theorem dX6_weightOf_5 : decode cX6_weightOf 5 = .ok (.aload_n 0, 1) := by decide +kernel
theorem dX6_weightOf_6 : decode cX6_weightOf 6 = .ok (.getfield 57, 3) := by decide +kernel
theorem dX6_weightOf_9 : decode cX6_weightOf 9 = .ok (.invokevirtual 164, 3) := by decide +kernel
theorem dX6_weightOf_12 : decode cX6_weightOf 12 = .ok (.iconst 0, 1) := by decide +kernel
theorem dX6_weightOf_13 : decode cX6_weightOf 13 = .ok (.istore_n 3, 1) := by decide +kernel
theorem dX6_weightOf_14 : decode cX6_weightOf 14 = .ok (.iconst 0, 1) := by decide +kernel
theorem dX6_weightOf_15 : decode cX6_weightOf 15 = .ok (.istore 4, 2) := by decide +kernel
theorem dX6_weightOf_17 : decode cX6_weightOf 17 = .ok (.iload 4, 2) := by decide +kernel
theorem dX6_weightOf_19 : decode cX6_weightOf 19 = .ok (.aload_n 0, 1) := by decide +kernel
theorem dX6_weightOf_20 : decode cX6_weightOf 20 = .ok (.getfield 26, 3) := by decide +kernel
theorem dX6_weightOf_23 : decode cX6_weightOf 23 = .ok (.getfield 234, 3) := by decide +kernel
theorem dX6_weightOf_26 : decode cX6_weightOf 26 = .ok (.if_icmp .ge 46, 3) := by decide +kernel
theorem dX6_weightOf_29 : decode cX6_weightOf 29 = .ok (.aload_n 0, 1) := by decide +kernel
theorem dX6_weightOf_30 : decode cX6_weightOf 30 = .ok (.getfield 26, 3) := by decide +kernel
theorem dX6_weightOf_33 : decode cX6_weightOf 33 = .ok (.iload 4, 2) := by decide +kernel
theorem dX6_weightOf_35 : decode cX6_weightOf 35 = .ok (.aload_n 0, 1) := by decide +kernel
theorem dX6_weightOf_36 : decode cX6_weightOf 36 = .ok (.getfield 57, 3) := by decide +kernel
theorem dX6_weightOf_39 : decode cX6_weightOf 39 = .ok (.invokevirtual 276, 3) := by decide +kernel
theorem dX6_weightOf_42 : decode cX6_weightOf 42 = .ok (.ifCond .eq 24, 3) := by decide +kernel
theorem dX6_weightOf_45 : decode cX6_weightOf 45 = .ok (.iload_n 3, 1) := by decide +kernel
theorem dX6_weightOf_46 : decode cX6_weightOf 46 = .ok (.aload_n 0, 1) := by decide +kernel
theorem dX6_weightOf_47 : decode cX6_weightOf 47 = .ok (.getfield 33, 3) := by decide +kernel
theorem dX6_weightOf_50 : decode cX6_weightOf 50 = .ok (.aload_n 0, 1) := by decide +kernel
theorem dX6_weightOf_51 : decode cX6_weightOf 51 = .ok (.getfield 26, 3) := by decide +kernel
theorem dX6_weightOf_54 : decode cX6_weightOf 54 = .ok (.getfield 116, 3) := by decide +kernel
theorem dX6_weightOf_57 : decode cX6_weightOf 57 = .ok (.iload 4, 2) := by decide +kernel
theorem dX6_weightOf_59 : decode cX6_weightOf 59 = .ok (.iaload, 1) := by decide +kernel
theorem dX6_weightOf_60 : decode cX6_weightOf 60 = .ok (.iload_n 2, 1) := by decide +kernel
theorem dX6_weightOf_61 : decode cX6_weightOf 61 = .ok (.invokevirtual 185, 3) := by decide +kernel
theorem dX6_weightOf_64 : decode cX6_weightOf 64 = .ok (.iadd, 1) := by decide +kernel
theorem dX6_weightOf_65 : decode cX6_weightOf 65 = .ok (.istore_n 3, 1) := by decide +kernel
theorem dX6_weightOf_66 : decode cX6_weightOf 66 = .ok (.iinc 4 1, 3) := by decide +kernel
theorem dX6_weightOf_69 : decode cX6_weightOf 69 = .ok (.goto (-52), 3) := by decide +kernel
theorem dX6_weightOf_72 : decode cX6_weightOf 72 = .ok (.iload_n 3, 1) := by decide +kernel
theorem dX6_weightOf_73 : decode cX6_weightOf 73 = .ok (.ireturn, 1) := by decide +kernel
theorem dX6_leastTerms_0 : decode cX6_leastTerms 0 = .ok (.lload_n 0, 1) := by decide +kernel
theorem dX6_leastTerms_1 : decode cX6_leastTerms 1 = .ok (.lstore 5, 2) := by decide +kernel
theorem dX6_leastTerms_3 : decode cX6_leastTerms 3 = .ok (.lload_n 2, 1) := by decide +kernel
theorem dX6_leastTerms_4 : decode cX6_leastTerms 4 = .ok (.lstore 7, 2) := by decide +kernel
theorem dX6_leastTerms_6 : decode cX6_leastTerms 6 = .ok (.iconst 0, 1) := by decide +kernel
theorem dX6_leastTerms_7 : decode cX6_leastTerms 7 = .ok (.istore 9, 2) := by decide +kernel
theorem dX6_leastTerms_9 : decode cX6_leastTerms 9 = .ok (.iload 9, 2) := by decide +kernel
theorem dX6_leastTerms_11 : decode cX6_leastTerms 11 = .ok (.bipush 100, 2) := by decide +kernel
theorem dX6_leastTerms_13 : decode cX6_leastTerms 13 = .ok (.if_icmp .ge 31, 3) := by decide +kernel
theorem dX6_leastTerms_16 : decode cX6_leastTerms 16 = .ok (.lload 7, 2) := by decide +kernel
theorem dX6_leastTerms_18 : decode cX6_leastTerms 18 = .ok (.lconst 0, 1) := by decide +kernel
theorem dX6_leastTerms_19 : decode cX6_leastTerms 19 = .ok (.lcmp, 1) := by decide +kernel
theorem dX6_leastTerms_20 : decode cX6_leastTerms 20 = .ok (.ifCond .eq 24, 3) := by decide +kernel
theorem dX6_leastTerms_23 : decode cX6_leastTerms 23 = .ok (.lload 5, 2) := by decide +kernel
theorem dX6_leastTerms_25 : decode cX6_leastTerms 25 = .ok (.lload 7, 2) := by decide +kernel
theorem dX6_leastTerms_27 : decode cX6_leastTerms 27 = .ok (.lrem, 1) := by decide +kernel
theorem dX6_leastTerms_28 : decode cX6_leastTerms 28 = .ok (.lstore 10, 2) := by decide +kernel
theorem dX6_leastTerms_30 : decode cX6_leastTerms 30 = .ok (.lload 7, 2) := by decide +kernel
theorem dX6_leastTerms_32 : decode cX6_leastTerms 32 = .ok (.lstore 5, 2) := by decide +kernel
theorem dX6_leastTerms_34 : decode cX6_leastTerms 34 = .ok (.lload 10, 2) := by decide +kernel
theorem dX6_leastTerms_36 : decode cX6_leastTerms 36 = .ok (.lstore 7, 2) := by decide +kernel
theorem dX6_leastTerms_38 : decode cX6_leastTerms 38 = .ok (.iinc 9 1, 3) := by decide +kernel
theorem dX6_leastTerms_41 : decode cX6_leastTerms 41 = .ok (.goto (-32), 3) := by decide +kernel
theorem dX6_leastTerms_44 : decode cX6_leastTerms 44 = .ok (.lload 5, 2) := by decide +kernel
theorem dX6_leastTerms_46 : decode cX6_leastTerms 46 = .ok (.lconst 0, 1) := by decide +kernel
theorem dX6_leastTerms_47 : decode cX6_leastTerms 47 = .ok (.lcmp, 1) := by decide +kernel
theorem dX6_leastTerms_48 : decode cX6_leastTerms 48 = .ok (.ifCond .ne 7, 3) := by decide +kernel
theorem dX6_leastTerms_51 : decode cX6_leastTerms 51 = .ok (.ldc2_w 194, 3) := by decide +kernel
theorem dX6_leastTerms_54 : decode cX6_leastTerms 54 = .ok (.lreturn, 1) := by decide +kernel
theorem dX6_leastTerms_55 : decode cX6_leastTerms 55 = .ok (.iload 4, 2) := by decide +kernel
theorem dX6_leastTerms_57 : decode cX6_leastTerms 57 = .ok (.ifCond .ne 10, 3) := by decide +kernel
theorem dX6_leastTerms_60 : decode cX6_leastTerms 60 = .ok (.lload_n 0, 1) := by decide +kernel
theorem dX6_leastTerms_61 : decode cX6_leastTerms 61 = .ok (.lload 5, 2) := by decide +kernel
theorem dX6_leastTerms_63 : decode cX6_leastTerms 63 = .ok (.ldiv, 1) := by decide +kernel
theorem dX6_leastTerms_64 : decode cX6_leastTerms 64 = .ok (.goto 7, 3) := by decide +kernel
theorem dX6_leastTerms_67 : decode cX6_leastTerms 67 = .ok (.lload_n 2, 1) := by decide +kernel
theorem dX6_leastTerms_68 : decode cX6_leastTerms 68 = .ok (.lload 5, 2) := by decide +kernel
theorem dX6_leastTerms_70 : decode cX6_leastTerms 70 = .ok (.ldiv, 1) := by decide +kernel
theorem dX6_leastTerms_71 : decode cX6_leastTerms 71 = .ok (.lreturn, 1) := by decide +kernel
theorem dX6_imageOf_0 : decode cX6_imageOf 0 = .ok (.iload_n 1, 1) := by decide +kernel
theorem dX6_imageOf_1 : decode cX6_imageOf 1 = .ok (.ifCond .ne 10, 3) := by decide +kernel
theorem dX6_imageOf_4 : decode cX6_imageOf 4 = .ok (.aload_n 0, 1) := by decide +kernel
theorem dX6_imageOf_5 : decode cX6_imageOf 5 = .ok (.getfield 37, 3) := by decide +kernel
theorem dX6_imageOf_8 : decode cX6_imageOf 8 = .ok (.goto 7, 3) := by decide +kernel
theorem dX6_imageOf_11 : decode cX6_imageOf 11 = .ok (.aload_n 0, 1) := by decide +kernel
theorem dX6_imageOf_12 : decode cX6_imageOf 12 = .ok (.getfield 40, 3) := by decide +kernel
theorem dX6_imageOf_15 : decode cX6_imageOf 15 = .ok (.areturn, 1) := by decide +kernel
theorem dX6_markOfDish_0 : decode cX6_markOfDish 0 = .ok (.aload_n 0, 1) := by decide +kernel
theorem dX6_markOfDish_1 : decode cX6_markOfDish 1 = .ok (.dup, 1) := by decide +kernel
theorem dX6_markOfDish_2 : decode cX6_markOfDish 2 = .ok (.getfield 61, 3) := by decide +kernel
theorem dX6_markOfDish_5 : decode cX6_markOfDish 5 = .ok (.lconst 1, 1) := by decide +kernel
theorem dX6_markOfDish_6 : decode cX6_markOfDish 6 = .ok (.ladd, 1) := by decide +kernel
theorem dX6_markOfDish_7 : decode cX6_markOfDish 7 = .ok (.putfield 61, 3) := by decide +kernel
theorem dX6_markOfDish_10 : decode cX6_markOfDish 10 = .ok (.aload_n 0, 1) := by decide +kernel
theorem dX6_markOfDish_11 : decode cX6_markOfDish 11 = .ok (.getfield 26, 3) := by decide +kernel
theorem dX6_markOfDish_14 : decode cX6_markOfDish 14 = .ok (.getfield 122, 3) := by decide +kernel
theorem dX6_markOfDish_17 : decode cX6_markOfDish 17 = .ok (.iload_n 1, 1) := by decide +kernel
theorem dX6_markOfDish_18 : decode cX6_markOfDish 18 = .ok (.iaload, 1) := by decide +kernel
theorem dX6_markOfDish_19 : decode cX6_markOfDish 19 = .ok (.ireturn, 1) := by decide +kernel
theorem dX6_markOfStew_0 : decode cX6_markOfStew 0 = .ok (.aload_n 0, 1) := by decide +kernel
theorem dX6_markOfStew_1 : decode cX6_markOfStew 1 = .ok (.dup, 1) := by decide +kernel
theorem dX6_markOfStew_2 : decode cX6_markOfStew 2 = .ok (.getfield 61, 3) := by decide +kernel
theorem dX6_markOfStew_5 : decode cX6_markOfStew 5 = .ok (.ldc2_w 280, 3) := by decide +kernel
theorem dX6_markOfStew_8 : decode cX6_markOfStew 8 = .ok (.ladd, 1) := by decide +kernel
theorem dX6_markOfStew_9 : decode cX6_markOfStew 9 = .ok (.putfield 61, 3) := by decide +kernel
theorem dX6_markOfStew_12 : decode cX6_markOfStew 12 = .ok (.aload_n 0, 1) := by decide +kernel
theorem dX6_markOfStew_13 : decode cX6_markOfStew 13 = .ok (.iload_n 1, 1) := by decide +kernel
theorem dX6_markOfStew_14 : decode cX6_markOfStew 14 = .ok (.invokevirtual 254, 3) := by decide +kernel
theorem dX6_markOfStew_17 : decode cX6_markOfStew 17 = .ok (.iconst 2, 1) := by decide +kernel
theorem dX6_markOfStew_18 : decode cX6_markOfStew 18 = .ok (.imul, 1) := by decide +kernel
theorem dX6_markOfStew_19 : decode cX6_markOfStew 19 = .ok (.ireturn, 1) := by decide +kernel
theorem dX6_markOfRoast_0 : decode cX6_markOfRoast 0 = .ok (.aload_n 0, 1) := by decide +kernel
theorem dX6_markOfRoast_1 : decode cX6_markOfRoast 1 = .ok (.dup, 1) := by decide +kernel
theorem dX6_markOfRoast_2 : decode cX6_markOfRoast 2 = .ok (.getfield 61, 3) := by decide +kernel
theorem dX6_markOfRoast_5 : decode cX6_markOfRoast 5 = .ok (.ldc2_w 282, 3) := by decide +kernel
theorem dX6_markOfRoast_8 : decode cX6_markOfRoast 8 = .ok (.ladd, 1) := by decide +kernel
theorem dX6_markOfRoast_9 : decode cX6_markOfRoast 9 = .ok (.putfield 61, 3) := by decide +kernel
theorem dX6_markOfRoast_12 : decode cX6_markOfRoast 12 = .ok (.aload_n 0, 1) := by decide +kernel
theorem dX6_markOfRoast_13 : decode cX6_markOfRoast 13 = .ok (.iload_n 1, 1) := by decide +kernel
theorem dX6_markOfRoast_14 : decode cX6_markOfRoast 14 = .ok (.invokevirtual 254, 3) := by decide +kernel
theorem dX6_markOfRoast_17 : decode cX6_markOfRoast 17 = .ok (.aload_n 0, 1) := by decide +kernel
theorem dX6_markOfRoast_18 : decode cX6_markOfRoast 18 = .ok (.getfield 26, 3) := by decide +kernel
theorem dX6_markOfRoast_21 : decode cX6_markOfRoast 21 = .ok (.getfield 116, 3) := by decide +kernel
theorem dX6_markOfRoast_24 : decode cX6_markOfRoast 24 = .ok (.iload_n 1, 1) := by decide +kernel
theorem dX6_markOfRoast_25 : decode cX6_markOfRoast 25 = .ok (.iaload, 1) := by decide +kernel
theorem dX6_markOfRoast_26 : decode cX6_markOfRoast 26 = .ok (.iadd, 1) := by decide +kernel
theorem dX6_markOfRoast_27 : decode cX6_markOfRoast 27 = .ok (.ireturn, 1) := by decide +kernel
theorem dX6_markOfBrides_0 : decode cX6_markOfBrides 0 = .ok (.aload_n 0, 1) := by decide +kernel
theorem dX6_markOfBrides_1 : decode cX6_markOfBrides 1 = .ok (.dup, 1) := by decide +kernel
theorem dX6_markOfBrides_2 : decode cX6_markOfBrides 2 = .ok (.getfield 61, 3) := by decide +kernel
theorem dX6_markOfBrides_5 : decode cX6_markOfBrides 5 = .ok (.ldc2_w 210, 3) := by decide +kernel
theorem dX6_markOfBrides_8 : decode cX6_markOfBrides 8 = .ok (.ladd, 1) := by decide +kernel
theorem dX6_markOfBrides_9 : decode cX6_markOfBrides 9 = .ok (.putfield 61, 3) := by decide +kernel
theorem dX6_markOfBrides_12 : decode cX6_markOfBrides 12 = .ok (.aload_n 0, 1) := by decide +kernel
theorem dX6_markOfBrides_13 : decode cX6_markOfBrides 13 = .ok (.iload_n 1, 1) := by decide +kernel
theorem dX6_markOfBrides_14 : decode cX6_markOfBrides 14 = .ok (.invokevirtual 257, 3) := by decide +kernel
theorem dX6_markOfBrides_17 : decode cX6_markOfBrides 17 = .ok (.iload_n 1, 1) := by decide +kernel
theorem dX6_markOfBrides_18 : decode cX6_markOfBrides 18 = .ok (.iadd, 1) := by decide +kernel
theorem dX6_markOfBrides_19 : decode cX6_markOfBrides 19 = .ok (.ireturn, 1) := by decide +kernel
theorem dX6_markOfPoor_0 : decode cX6_markOfPoor 0 = .ok (.aload_n 0, 1) := by decide +kernel
theorem dX6_markOfPoor_1 : decode cX6_markOfPoor 1 = .ok (.dup, 1) := by decide +kernel
theorem dX6_markOfPoor_2 : decode cX6_markOfPoor 2 = .ok (.getfield 61, 3) := by decide +kernel
theorem dX6_markOfPoor_5 : decode cX6_markOfPoor 5 = .ok (.ldc2_w 284, 3) := by decide +kernel
theorem dX6_markOfPoor_8 : decode cX6_markOfPoor 8 = .ok (.ladd, 1) := by decide +kernel
theorem dX6_markOfPoor_9 : decode cX6_markOfPoor 9 = .ok (.putfield 61, 3) := by decide +kernel
theorem dX6_markOfPoor_12 : decode cX6_markOfPoor 12 = .ok (.aload_n 0, 1) := by decide +kernel
theorem dX6_markOfPoor_13 : decode cX6_markOfPoor 13 = .ok (.iload_n 1, 1) := by decide +kernel
theorem dX6_markOfPoor_14 : decode cX6_markOfPoor 14 = .ok (.invokevirtual 260, 3) := by decide +kernel
theorem dX6_markOfPoor_17 : decode cX6_markOfPoor 17 = .ok (.aload_n 0, 1) := by decide +kernel
theorem dX6_markOfPoor_18 : decode cX6_markOfPoor 18 = .ok (.getfield 26, 3) := by decide +kernel
theorem dX6_markOfPoor_21 : decode cX6_markOfPoor 21 = .ok (.getfield 119, 3) := by decide +kernel
theorem dX6_markOfPoor_24 : decode cX6_markOfPoor 24 = .ok (.iload_n 1, 1) := by decide +kernel
theorem dX6_markOfPoor_25 : decode cX6_markOfPoor 25 = .ok (.iaload, 1) := by decide +kernel
theorem dX6_markOfPoor_26 : decode cX6_markOfPoor 26 = .ok (.isub, 1) := by decide +kernel
theorem dX6_markOfPoor_27 : decode cX6_markOfPoor 27 = .ok (.ireturn, 1) := by decide +kernel
theorem dX6_markOfBurnt_0 : decode cX6_markOfBurnt 0 = .ok (.aload_n 0, 1) := by decide +kernel
theorem dX6_markOfBurnt_1 : decode cX6_markOfBurnt 1 = .ok (.dup, 1) := by decide +kernel
theorem dX6_markOfBurnt_2 : decode cX6_markOfBurnt 2 = .ok (.getfield 61, 3) := by decide +kernel
theorem dX6_markOfBurnt_5 : decode cX6_markOfBurnt 5 = .ok (.ldc2_w 286, 3) := by decide +kernel
theorem dX6_markOfBurnt_8 : decode cX6_markOfBurnt 8 = .ok (.ladd, 1) := by decide +kernel
theorem dX6_markOfBurnt_9 : decode cX6_markOfBurnt 9 = .ok (.putfield 61, 3) := by decide +kernel
theorem dX6_markOfBurnt_12 : decode cX6_markOfBurnt 12 = .ok (.aload_n 0, 1) := by decide +kernel
theorem dX6_markOfBurnt_13 : decode cX6_markOfBurnt 13 = .ok (.iload_n 1, 1) := by decide +kernel
theorem dX6_markOfBurnt_14 : decode cX6_markOfBurnt 14 = .ok (.invokevirtual 254, 3) := by decide +kernel
theorem dX6_markOfBurnt_17 : decode cX6_markOfBurnt 17 = .ok (.aload_n 0, 1) := by decide +kernel
theorem dX6_markOfBurnt_18 : decode cX6_markOfBurnt 18 = .ok (.getfield 33, 3) := by decide +kernel
theorem dX6_markOfBurnt_21 : decode cX6_markOfBurnt 21 = .ok (.getfield 129, 3) := by decide +kernel
theorem dX6_markOfBurnt_24 : decode cX6_markOfBurnt 24 = .ok (.iadd, 1) := by decide +kernel
theorem dX6_markOfBurnt_25 : decode cX6_markOfBurnt 25 = .ok (.ireturn, 1) := by decide +kernel
