theorem dX7_unitsFor_6 : decode cX7_unitsFor 6 = .ok (.iload 4, 2) := by decide +kernel
theorem dX7_unitsFor_8 : decode cX7_unitsFor 8 = .ok (.sipush 729, 3) := by decide +kernel
theorem dX7_unitsFor_11 : decode cX7_unitsFor 11 = .ok (.if_icmp .ge 121, 3) := by decide +kernel
theorem dX7_unitsFor_14 : decode cX7_unitsFor 14 = .ok (.aload_n 0, 1) := by decide +kernel
theorem dX7_unitsFor_15 : decode cX7_unitsFor 15 = .ok (.iload 4, 2) := by decide +kernel
theorem dX7_unitsFor_17 : decode cX7_unitsFor 17 = .ok (.iload_n 2, 1) := by decide +kernel
theorem dX7_unitsFor_18 : decode cX7_unitsFor 18 = .ok (.invokevirtual 128, 3) := by decide +kernel
theorem dX7_unitsFor_21 : decode cX7_unitsFor 21 = .ok (.ifCond .eq 105, 3) := by decide +kernel
theorem dX7_unitsFor_24 : decode cX7_unitsFor 24 = .ok (.aload_n 0, 1) := by decide +kernel
theorem dX7_unitsFor_25 : decode cX7_unitsFor 25 = .ok (.iload_n 1, 1) := by decide +kernel
theorem dX7_unitsFor_26 : decode cX7_unitsFor 26 = .ok (.invokevirtual 131, 3) := by decide +kernel
theorem dX7_unitsFor_29 : decode cX7_unitsFor 29 = .ok (.ifCond .eq 97, 3) := by decide +kernel
theorem dX7_unitsFor_32 : decode cX7_unitsFor 32 = .ok (.iconst 0, 1) := by decide +kernel
theorem dX7_unitsFor_33 : decode cX7_unitsFor 33 = .ok (.istore 5, 2) := by decide +kernel
theorem dX7_unitsFor_35 : decode cX7_unitsFor 35 = .ok (.iconst 0, 1) := by decide +kernel
theorem dX7_unitsFor_36 : decode cX7_unitsFor 36 = .ok (.istore 6, 2) := by decide +kernel
theorem dX7_unitsFor_38 : decode cX7_unitsFor 38 = .ok (.iload 6, 2) := by decide +kernel
theorem dX7_unitsFor_40 : decode cX7_unitsFor 40 = .ok (.iconst 3, 1) := by decide +kernel
theorem dX7_unitsFor_41 : decode cX7_unitsFor 41 = .ok (.if_icmp .ge 41, 3) := by decide +kernel
theorem dX7_unitsFor_44 : decode cX7_unitsFor 44 = .ok (.iload 5, 2) := by decide +kernel
theorem dX7_unitsFor_46 : decode cX7_unitsFor 46 = .ok (.aload_n 0, 1) := by decide +kernel
theorem dX7_unitsFor_47 : decode cX7_unitsFor 47 = .ok (.getfield 42, 3) := by decide +kernel
theorem dX7_unitsFor_50 : decode cX7_unitsFor 50 = .ok (.iload 6, 2) := by decide +kernel
theorem dX7_unitsFor_52 : decode cX7_unitsFor 52 = .ok (.iaload, 1) := by decide +kernel
theorem dX7_unitsFor_53 : decode cX7_unitsFor 53 = .ok (.bipush 8, 2) := by decide +kernel
theorem dX7_unitsFor_55 : decode cX7_unitsFor 55 = .ok (.if_icmp .ge 17, 3) := by decide +kernel
theorem dX7_unitsFor_58 : decode cX7_unitsFor 58 = .ok (.aload_n 0, 1) := by decide +kernel
theorem dX7_unitsFor_59 : decode cX7_unitsFor 59 = .ok (.aload_n 0, 1) := by decide +kernel
theorem dX7_unitsFor_60 : decode cX7_unitsFor 60 = .ok (.getfield 42, 3) := by decide +kernel
theorem dX7_unitsFor_63 : decode cX7_unitsFor 63 = .ok (.iload 6, 2) := by decide +kernel
theorem dX7_unitsFor_65 : decode cX7_unitsFor 65 = .ok (.iaload, 1) := by decide +kernel
theorem dX7_unitsFor_66 : decode cX7_unitsFor 66 = .ok (.invokevirtual 121, 3) := by decide +kernel
theorem dX7_unitsFor_69 : decode cX7_unitsFor 69 = .ok (.goto 4, 3) := by decide +kernel
theorem dX7_unitsFor_72 : decode cX7_unitsFor 72 = .ok (.iconst 0, 1) := by decide +kernel
theorem dX7_unitsFor_73 : decode cX7_unitsFor 73 = .ok (.iadd, 1) := by decide +kernel
theorem dX7_unitsFor_74 : decode cX7_unitsFor 74 = .ok (.istore 5, 2) := by decide +kernel
theorem dX7_unitsFor_76 : decode cX7_unitsFor 76 = .ok (.iinc 6 1, 3) := by decide +kernel
theorem dX7_unitsFor_79 : decode cX7_unitsFor 79 = .ok (.goto (-41), 3) := by decide +kernel
theorem dX7_unitsFor_82 : decode cX7_unitsFor 82 = .ok (.iload_n 3, 1) := by decide +kernel
theorem dX7_unitsFor_83 : decode cX7_unitsFor 83 = .ok (.bipush (-9), 2) := by decide +kernel
theorem dX7_unitsFor_85 : decode cX7_unitsFor 85 = .ok (.if_icmp .eq 9, 3) := by decide +kernel
theorem dX7_unitsFor_88 : decode cX7_unitsFor 88 = .ok (.iload 5, 2) := by decide +kernel
theorem dX7_unitsFor_90 : decode cX7_unitsFor 90 = .ok (.iload_n 3, 1) := by decide +kernel
theorem dX7_unitsFor_91 : decode cX7_unitsFor 91 = .ok (.if_icmp .ge 35, 3) := by decide +kernel
theorem dX7_unitsFor_94 : decode cX7_unitsFor 94 = .ok (.iload 5, 2) := by decide +kernel
theorem dX7_unitsFor_96 : decode cX7_unitsFor 96 = .ok (.istore_n 3, 1) := by decide +kernel
theorem dX7_unitsFor_97 : decode cX7_unitsFor 97 = .ok (.iconst 0, 1) := by decide +kernel
theorem dX7_unitsFor_98 : decode cX7_unitsFor 98 = .ok (.istore 6, 2) := by decide +kernel
theorem dX7_unitsFor_100 : decode cX7_unitsFor 100 = .ok (.iload 6, 2) := by decide +kernel
theorem dX7_unitsFor_102 : decode cX7_unitsFor 102 = .ok (.iconst 3, 1) := by decide +kernel
theorem dX7_unitsFor_103 : decode cX7_unitsFor 103 = .ok (.if_icmp .ge 23, 3) := by decide +kernel
theorem dX7_unitsFor_106 : decode cX7_unitsFor 106 = .ok (.aload_n 0, 1) := by decide +kernel
theorem dX7_unitsFor_107 : decode cX7_unitsFor 107 = .ok (.getfield 45, 3) := by decide +kernel
theorem dX7_unitsFor_110 : decode cX7_unitsFor 110 = .ok (.iload 6, 2) := by decide +kernel
theorem dX7_unitsFor_112 : decode cX7_unitsFor 112 = .ok (.aload_n 0, 1) := by decide +kernel
theorem dX7_unitsFor_113 : decode cX7_unitsFor 113 = .ok (.getfield 42, 3) := by decide +kernel
theorem dX7_unitsFor_116 : decode cX7_unitsFor 116 = .ok (.iload 6, 2) := by decide +kernel
theorem dX7_unitsFor_118 : decode cX7_unitsFor 118 = .ok (.iaload, 1) := by decide +kernel
theorem dX7_unitsFor_119 : decode cX7_unitsFor 119 = .ok (.iastore, 1) := by decide +kernel
theorem dX7_unitsFor_120 : decode cX7_unitsFor 120 = .ok (.iinc 6 1, 3) := by decide +kernel
theorem dX7_unitsFor_123 : decode cX7_unitsFor 123 = .ok (.goto (-23), 3) := by decide +kernel
theorem dX7_unitsFor_126 : decode cX7_unitsFor 126 = .ok (.iinc 4 1, 3) := by decide +kernel
theorem dX7_unitsFor_129 : decode cX7_unitsFor 129 = .ok (.goto (-123), 3) := by decide +kernel
theorem dX7_unitsFor_132 : decode cX7_unitsFor 132 = .ok (.iload_n 3, 1) := by decide +kernel
theorem dX7_unitsFor_133 : decode cX7_unitsFor 133 = .ok (.ireturn, 1) := by decide +kernel
theorem dX7_says_0 : decode cX7_says 0 = .ok (.aload_n 0, 1) := by decide +kernel
theorem dX7_says_1 : decode cX7_says 1 = .ok (.iload_n 1, 1) := by decide +kernel
theorem dX7_says_2 : decode cX7_says 2 = .ok (.invokevirtual 111, 3) := by decide +kernel
theorem dX7_says_5 : decode cX7_says 5 = .ok (.ifCond .eq 23, 3) := by decide +kernel
theorem dX7_says_8 : decode cX7_says 8 = .ok (.iload_n 2, 1) := by decide +kernel
theorem dX7_says_9 : decode cX7_says 9 = .ok (.iload_n 3, 1) := by decide +kernel
theorem dX7_says_10 : decode cX7_says 10 = .ok (.iload 4, 2) := by decide +kernel
theorem dX7_says_12 : decode cX7_says 12 = .ok (.invokestatic 134, 3) := by decide +kernel
theorem dX7_says_15 : decode cX7_says 15 = .ok (.ifCond .eq 13, 3) := by decide +kernel
theorem dX7_says_18 : decode cX7_says 18 = .ok (.iload 5, 2) := by decide +kernel
theorem dX7_says_20 : decode cX7_says 20 = .ok (.iconst (-1), 1) := by decide +kernel
theorem dX7_says_21 : decode cX7_says 21 = .ok (.iconst 2, 1) := by decide +kernel
theorem dX7_says_22 : decode cX7_says 22 = .ok (.invokestatic 61, 3) := by decide +kernel
theorem dX7_says_25 : decode cX7_says 25 = .ok (.ifCond .ne 5, 3) := by decide +kernel
theorem dX7_says_28 : decode cX7_says 28 = .ok (.iconst (-1), 1) := by decide +kernel
theorem dX7_says_29 : decode cX7_says 29 = .ok (.ireturn, 1) := by decide +kernel
theorem dX7_says_30 : decode cX7_says 30 = .ok (.aload_n 0, 1) := by decide +kernel
theorem dX7_says_31 : decode cX7_says 31 = .ok (.iload_n 2, 1) := by decide +kernel
theorem dX7_says_32 : decode cX7_says 32 = .ok (.iload_n 3, 1) := by decide +kernel
theorem dX7_says_33 : decode cX7_says 33 = .ok (.iload 4, 2) := by decide +kernel
theorem dX7_says_35 : decode cX7_says 35 = .ok (.invokevirtual 137, 3) := by decide +kernel
theorem dX7_says_38 : decode cX7_says 38 = .ok (.aload_n 0, 1) := by decide +kernel
theorem dX7_says_39 : decode cX7_says 39 = .ok (.iload_n 1, 1) := by decide +kernel
theorem dX7_says_40 : decode cX7_says 40 = .ok (.bipush 7, 2) := by decide +kernel
theorem dX7_says_42 : decode cX7_says 42 = .ok (.invokevirtual 141, 3) := by decide +kernel
theorem dX7_says_45 : decode cX7_says 45 = .ok (.istore 6, 2) := by decide +kernel
theorem dX7_says_47 : decode cX7_says 47 = .ok (.iload 6, 2) := by decide +kernel
theorem dX7_says_49 : decode cX7_says 49 = .ok (.bipush (-9), 2) := by decide +kernel
theorem dX7_says_51 : decode cX7_says 51 = .ok (.if_icmp .eq 8, 3) := by decide +kernel
theorem dX7_says_54 : decode cX7_says 54 = .ok (.iload 5, 2) := by decide +kernel
theorem dX7_says_56 : decode cX7_says 56 = .ok (.ifCond .ge 8, 3) := by decide +kernel
theorem dX7_says_59 : decode cX7_says 59 = .ok (.iload 6, 2) := by decide +kernel
theorem dX7_says_61 : decode cX7_says 61 = .ok (.goto 25, 3) := by decide +kernel
theorem dX7_says_64 : decode cX7_says 64 = .ok (.aload_n 0, 1) := by decide +kernel
theorem dX7_says_65 : decode cX7_says 65 = .ok (.getfield 48, 3) := by decide +kernel
theorem dX7_says_68 : decode cX7_says 68 = .ok (.iload 5, 2) := by decide +kernel
theorem dX7_says_70 : decode cX7_says 70 = .ok (.iaload, 1) := by decide +kernel
theorem dX7_says_71 : decode cX7_says 71 = .ok (.ifCond .ge 8, 3) := by decide +kernel
theorem dX7_says_74 : decode cX7_says 74 = .ok (.bipush (-5), 2) := by decide +kernel
theorem dX7_says_76 : decode cX7_says 76 = .ok (.goto 10, 3) := by decide +kernel
theorem dX7_says_79 : decode cX7_says 79 = .ok (.aload_n 0, 1) := by decide +kernel
theorem dX7_says_80 : decode cX7_says 80 = .ok (.getfield 45, 3) := by decide +kernel
theorem dX7_says_83 : decode cX7_says 83 = .ok (.iload 5, 2) := by decide +kernel
theorem dX7_says_85 : decode cX7_says 85 = .ok (.iaload, 1) := by decide +kernel
theorem dX7_says_86 : decode cX7_says 86 = .ok (.ireturn, 1) := by decide +kernel
theorem dX7_bitsIn_0 : decode cX7_bitsIn 0 = .ok (.iconst 0, 1) := by decide +kernel
theorem dX7_bitsIn_1 : decode cX7_bitsIn 1 = .ok (.istore_n 1, 1) := by decide +kernel
theorem dX7_bitsIn_2 : decode cX7_bitsIn 2 = .ok (.iconst 0, 1) := by decide +kernel
theorem dX7_bitsIn_3 : decode cX7_bitsIn 3 = .ok (.istore_n 2, 1) := by decide +kernel
theorem dX7_bitsIn_4 : decode cX7_bitsIn 4 = .ok (.iload_n 2, 1) := by decide +kernel
theorem dX7_bitsIn_5 : decode cX7_bitsIn 5 = .ok (.bipush 8, 2) := by decide +kernel
theorem dX7_bitsIn_7 : decode cX7_bitsIn 7 = .ok (.if_icmp .ge 17, 3) := by decide +kernel
theorem dX7_bitsIn_10 : decode cX7_bitsIn 10 = .ok (.iload_n 1, 1) := by decide +kernel
theorem dX7_bitsIn_11 : decode cX7_bitsIn 11 = .ok (.iload_n 0, 1) := by decide +kernel
theorem dX7_bitsIn_12 : decode cX7_bitsIn 12 = .ok (.iload_n 2, 1) := by decide +kernel
theorem dX7_bitsIn_13 : decode cX7_bitsIn 13 = .ok (.ishr, 1) := by decide +kernel
theorem dX7_bitsIn_14 : decode cX7_bitsIn 14 = .ok (.iconst 1, 1) := by decide +kernel
theorem dX7_bitsIn_15 : decode cX7_bitsIn 15 = .ok (.iand, 1) := by decide +kernel
theorem dX7_bitsIn_16 : decode cX7_bitsIn 16 = .ok (.iadd, 1) := by decide +kernel
theorem dX7_bitsIn_17 : decode cX7_bitsIn 17 = .ok (.istore_n 1, 1) := by decide +kernel
theorem dX7_bitsIn_18 : decode cX7_bitsIn 18 = .ok (.iinc 2 1, 3) := by decide +kernel
theorem dX7_bitsIn_21 : decode cX7_bitsIn 21 = .ok (.goto (-17), 3) := by decide +kernel
theorem dX7_bitsIn_24 : decode cX7_bitsIn 24 = .ok (.iload_n 1, 1) := by decide +kernel
theorem dX7_bitsIn_25 : decode cX7_bitsIn 25 = .ok (.ireturn, 1) := by decide +kernel
theorem dX7_nearest_0 : decode cX7_nearest 0 = .ok (.aload_n 0, 1) := by decide +kernel
theorem dX7_nearest_1 : decode cX7_nearest 1 = .ok (.iload_n 1, 1) := by decide +kernel
theorem dX7_nearest_2 : decode cX7_nearest 2 = .ok (.invokevirtual 111, 3) := by decide +kernel
theorem dX7_nearest_5 : decode cX7_nearest 5 = .ok (.ifCond .eq 13, 3) := by decide +kernel
theorem dX7_nearest_8 : decode cX7_nearest 8 = .ok (.iload_n 2, 1) := by decide +kernel
theorem dX7_nearest_9 : decode cX7_nearest 9 = .ok (.iload_n 3, 1) := by decide +kernel
theorem dX7_nearest_10 : decode cX7_nearest 10 = .ok (.iload 4, 2) := by decide +kernel
theorem dX7_nearest_12 : decode cX7_nearest 12 = .ok (.invokestatic 134, 3) := by decide +kernel
theorem dX7_nearest_15 : decode cX7_nearest 15 = .ok (.ifCond .ne 5, 3) := by decide +kernel
theorem dX7_nearest_18 : decode cX7_nearest 18 = .ok (.iconst (-1), 1) := by decide +kernel
theorem dX7_nearest_19 : decode cX7_nearest 19 = .ok (.ireturn, 1) := by decide +kernel
theorem dX7_nearest_20 : decode cX7_nearest 20 = .ok (.aload_n 0, 1) := by decide +kernel
theorem dX7_nearest_21 : decode cX7_nearest 21 = .ok (.iload_n 2, 1) := by decide +kernel
theorem dX7_nearest_22 : decode cX7_nearest 22 = .ok (.iload_n 3, 1) := by decide +kernel
theorem dX7_nearest_23 : decode cX7_nearest 23 = .ok (.iload 4, 2) := by decide +kernel
theorem dX7_nearest_25 : decode cX7_nearest 25 = .ok (.invokevirtual 137, 3) := by decide +kernel
theorem dX7_nearest_28 : decode cX7_nearest 28 = .ok (.iload 4, 2) := by decide +kernel
theorem dX7_nearest_30 : decode cX7_nearest 30 = .ok (.ifCond .lt 8, 3) := by decide +kernel
theorem dX7_nearest_33 : decode cX7_nearest 33 = .ok (.bipush 7, 2) := by decide +kernel
theorem dX7_nearest_35 : decode cX7_nearest 35 = .ok (.goto 12, 3) := by decide +kernel
theorem dX7_nearest_38 : decode cX7_nearest 38 = .ok (.iload_n 3, 1) := by decide +kernel
theorem dX7_nearest_39 : decode cX7_nearest 39 = .ok (.ifCond .lt 7, 3) := by decide +kernel
theorem dX7_nearest_42 : decode cX7_nearest 42 = .ok (.iconst 3, 1) := by decide +kernel
theorem dX7_nearest_43 : decode cX7_nearest 43 = .ok (.goto 4, 3) := by decide +kernel
theorem dX7_nearest_46 : decode cX7_nearest 46 = .ok (.iconst 1, 1) := by decide +kernel
theorem dX7_nearest_47 : decode cX7_nearest 47 = .ok (.istore 5, 2) := by decide +kernel
theorem dX7_nearest_49 : decode cX7_nearest 49 = .ok (.iconst 0, 1) := by decide +kernel
theorem dX7_nearest_50 : decode cX7_nearest 50 = .ok (.istore 6, 2) := by decide +kernel
theorem dX7_nearest_52 : decode cX7_nearest 52 = .ok (.iconst 1, 1) := by decide +kernel
theorem dX7_nearest_53 : decode cX7_nearest 53 = .ok (.istore 7, 2) := by decide +kernel
theorem dX7_nearest_55 : decode cX7_nearest 55 = .ok (.iload 7, 2) := by decide +kernel
theorem dX7_nearest_57 : decode cX7_nearest 57 = .ok (.iload 5, 2) := by decide +kernel
theorem dX7_nearest_59 : decode cX7_nearest 59 = .ok (.if_icmp .gt 43, 3) := by decide +kernel
theorem dX7_nearest_62 : decode cX7_nearest 62 = .ok (.iload 7, 2) := by decide +kernel
theorem dX7_nearest_64 : decode cX7_nearest 64 = .ok (.invokestatic 145, 3) := by decide +kernel
theorem dX7_nearest_67 : decode cX7_nearest 67 = .ok (.iload 6, 2) := by decide +kernel
theorem dX7_nearest_69 : decode cX7_nearest 69 = .ok (.invokestatic 145, 3) := by decide +kernel
theorem dX7_nearest_72 : decode cX7_nearest 72 = .ok (.if_icmp .le 20, 3) := by decide +kernel
theorem dX7_nearest_75 : decode cX7_nearest 75 = .ok (.aload_n 0, 1) := by decide +kernel
theorem dX7_nearest_76 : decode cX7_nearest 76 = .ok (.iload_n 1, 1) := by decide +kernel
theorem dX7_nearest_77 : decode cX7_nearest 77 = .ok (.iload 7, 2) := by decide +kernel
theorem dX7_nearest_79 : decode cX7_nearest 79 = .ok (.invokevirtual 141, 3) := by decide +kernel
theorem dX7_nearest_82 : decode cX7_nearest 82 = .ok (.bipush (-9), 2) := by decide +kernel
theorem dX7_nearest_84 : decode cX7_nearest 84 = .ok (.if_icmp .eq 8, 3) := by decide +kernel
theorem dX7_nearest_87 : decode cX7_nearest 87 = .ok (.iload 7, 2) := by decide +kernel
theorem dX7_nearest_89 : decode cX7_nearest 89 = .ok (.goto 5, 3) := by decide +kernel
theorem dX7_nearest_92 : decode cX7_nearest 92 = .ok (.iload 6, 2) := by decide +kernel
theorem dX7_nearest_94 : decode cX7_nearest 94 = .ok (.istore 6, 2) := by decide +kernel
theorem dX7_nearest_96 : decode cX7_nearest 96 = .ok (.iinc 7 1, 3) := by decide +kernel
theorem dX7_nearest_99 : decode cX7_nearest 99 = .ok (.goto (-44), 3) := by decide +kernel
theorem dX7_nearest_102 : decode cX7_nearest 102 = .ok (.iload 6, 2) := by decide +kernel
theorem dX7_nearest_104 : decode cX7_nearest 104 = .ok (.ireturn, 1) := by decide +kernel
theorem dX7_readAs_0 : decode cX7_readAs 0 = .ok (.iconst 1, 1) := by decide +kernel
theorem dX7_readAs_1 : decode cX7_readAs 1 = .ok (.istore_n 3, 1) := by decide +kernel
theorem dX7_readAs_2 : decode cX7_readAs 2 = .ok (.iconst 0, 1) := by decide +kernel
theorem dX7_readAs_3 : decode cX7_readAs 3 = .ok (.istore 4, 2) := by decide +kernel
theorem dX7_readAs_5 : decode cX7_readAs 5 = .ok (.iload 4, 2) := by decide +kernel
theorem dX7_readAs_7 : decode cX7_readAs 7 = .ok (.iconst 3, 1) := by decide +kernel
theorem dX7_readAs_8 : decode cX7_readAs 8 = .ok (.if_icmp .ge 44, 3) := by decide +kernel
theorem dX7_readAs_11 : decode cX7_readAs 11 = .ok (.iload_n 3, 1) := by decide +kernel
theorem dX7_readAs_12 : decode cX7_readAs 12 = .ok (.iload_n 1, 1) := by decide +kernel
theorem dX7_readAs_13 : decode cX7_readAs 13 = .ok (.iload_n 2, 1) := by decide +kernel
theorem dX7_readAs_14 : decode cX7_readAs 14 = .ok (.ixor, 1) := by decide +kernel
theorem dX7_readAs_15 : decode cX7_readAs 15 = .ok (.iload 4, 2) := by decide +kernel
theorem dX7_readAs_17 : decode cX7_readAs 17 = .ok (.ishr, 1) := by decide +kernel
theorem dX7_readAs_18 : decode cX7_readAs 18 = .ok (.iconst 1, 1) := by decide +kernel
theorem dX7_readAs_19 : decode cX7_readAs 19 = .ok (.iand, 1) := by decide +kernel
theorem dX7_readAs_20 : decode cX7_readAs 20 = .ok (.iconst 1, 1) := by decide +kernel
theorem dX7_readAs_21 : decode cX7_readAs 21 = .ok (.if_icmp .ne 13, 3) := by decide +kernel
theorem dX7_readAs_24 : decode cX7_readAs 24 = .ok (.aload_n 0, 1) := by decide +kernel
theorem dX7_readAs_25 : decode cX7_readAs 25 = .ok (.getfield 35, 3) := by decide +kernel
theorem dX7_readAs_28 : decode cX7_readAs 28 = .ok (.bipush 30, 2) := by decide +kernel
theorem dX7_readAs_30 : decode cX7_readAs 30 = .ok (.iaload, 1) := by decide +kernel
theorem dX7_readAs_31 : decode cX7_readAs 31 = .ok (.goto 13, 3) := by decide +kernel
theorem dX7_readAs_34 : decode cX7_readAs 34 = .ok (.bipush 10, 2) := by decide +kernel
theorem dX7_readAs_36 : decode cX7_readAs 36 = .ok (.aload_n 0, 1) := by decide +kernel
theorem dX7_readAs_37 : decode cX7_readAs 37 = .ok (.getfield 35, 3) := by decide +kernel
theorem dX7_readAs_40 : decode cX7_readAs 40 = .ok (.bipush 30, 2) := by decide +kernel
theorem dX7_readAs_42 : decode cX7_readAs 42 = .ok (.iaload, 1) := by decide +kernel
theorem dX7_readAs_43 : decode cX7_readAs 43 = .ok (.isub, 1) := by decide +kernel
theorem dX7_readAs_44 : decode cX7_readAs 44 = .ok (.imul, 1) := by decide +kernel
theorem dX7_readAs_45 : decode cX7_readAs 45 = .ok (.istore_n 3, 1) := by decide +kernel
theorem dX7_readAs_46 : decode cX7_readAs 46 = .ok (.iinc 4 1, 3) := by decide +kernel
theorem dX7_readAs_49 : decode cX7_readAs 49 = .ok (.goto (-44), 3) := by decide +kernel
theorem dX7_readAs_52 : decode cX7_readAs 52 = .ok (.iload_n 3, 1) := by decide +kernel
theorem dX7_readAs_53 : decode cX7_readAs 53 = .ok (.ireturn, 1) := by decide +kernel
theorem dX7_reads_0 : decode cX7_reads 0 = .ok (.iload_n 1, 1) := by decide +kernel
theorem dX7_reads_1 : decode cX7_reads 1 = .ok (.invokestatic 148, 3) := by decide +kernel
theorem dX7_reads_4 : decode cX7_reads 4 = .ok (.ifCond .eq 19, 3) := by decide +kernel
theorem dX7_reads_7 : decode cX7_reads 7 = .ok (.iload_n 2, 1) := by decide +kernel
theorem dX7_reads_8 : decode cX7_reads 8 = .ok (.invokestatic 148, 3) := by decide +kernel
theorem dX7_reads_11 : decode cX7_reads 11 = .ok (.ifCond .eq 12, 3) := by decide +kernel
theorem dX7_reads_14 : decode cX7_reads 14 = .ok (.aload_n 0, 1) := by decide +kernel
theorem dX7_reads_15 : decode cX7_reads 15 = .ok (.iload_n 1, 1) := by decide +kernel
theorem dX7_reads_16 : decode cX7_reads 16 = .ok (.iload_n 2, 1) := by decide +kernel
theorem dX7_reads_17 : decode cX7_reads 17 = .ok (.invokevirtual 151, 3) := by decide +kernel
theorem dX7_reads_20 : decode cX7_reads 20 = .ok (.goto 4, 3) := by decide +kernel
theorem dX7_reads_23 : decode cX7_reads 23 = .ok (.iconst (-1), 1) := by decide +kernel
theorem dX7_reads_24 : decode cX7_reads 24 = .ok (.ireturn, 1) := by decide +kernel
theorem dX7_meant_0 : decode cX7_meant 0 = .ok (.iconst 0, 1) := by decide +kernel
theorem dX7_meant_1 : decode cX7_meant 1 = .ok (.istore_n 2, 1) := by decide +kernel
theorem dX7_meant_2 : decode cX7_meant 2 = .ok (.iload_n 2, 1) := by decide +kernel
theorem dX7_meant_3 : decode cX7_meant 3 = .ok (.aload_n 0, 1) := by decide +kernel
theorem dX7_meant_4 : decode cX7_meant 4 = .ok (.getfield 20, 3) := by decide +kernel
theorem dX7_meant_7 : decode cX7_meant 7 = .ok (.iconst 0, 1) := by decide +kernel
theorem dX7_meant_8 : decode cX7_meant 8 = .ok (.iaload, 1) := by decide +kernel
theorem dX7_meant_9 : decode cX7_meant 9 = .ok (.if_icmp .ge 26, 3) := by decide +kernel
theorem dX7_meant_12 : decode cX7_meant 12 = .ok (.aload_n 0, 1) := by decide +kernel
theorem dX7_meant_13 : decode cX7_meant 13 = .ok (.getfield 26, 3) := by decide +kernel
theorem dX7_meant_16 : decode cX7_meant 16 = .ok (.iload_n 2, 1) := by decide +kernel
theorem dX7_meant_17 : decode cX7_meant 17 = .ok (.iaload, 1) := by decide +kernel
theorem dX7_meant_18 : decode cX7_meant 18 = .ok (.iload_n 1, 1) := by decide +kernel
theorem dX7_meant_19 : decode cX7_meant 19 = .ok (.if_icmp .ne 10, 3) := by decide +kernel
theorem dX7_meant_22 : decode cX7_meant 22 = .ok (.aload_n 0, 1) := by decide +kernel
theorem dX7_meant_23 : decode cX7_meant 23 = .ok (.getfield 29, 3) := by decide +kernel
theorem dX7_meant_26 : decode cX7_meant 26 = .ok (.iload_n 2, 1) := by decide +kernel
theorem dX7_meant_27 : decode cX7_meant 27 = .ok (.iaload, 1) := by decide +kernel
theorem dX7_meant_28 : decode cX7_meant 28 = .ok (.ireturn, 1) := by decide +kernel
theorem dX7_meant_29 : decode cX7_meant 29 = .ok (.iinc 2 1, 3) := by decide +kernel
theorem dX7_meant_32 : decode cX7_meant 32 = .ok (.goto (-30), 3) := by decide +kernel
theorem dX7_meant_35 : decode cX7_meant 35 = .ok (.bipush (-9), 2) := by decide +kernel
theorem dX7_meant_37 : decode cX7_meant 37 = .ok (.ireturn, 1) := by decide +kernel
theorem dX7_means_0 : decode cX7_means 0 = .ok (.iload_n 1, 1) := by decide +kernel
theorem dX7_means_1 : decode cX7_means 1 = .ok (.invokestatic 148, 3) := by decide +kernel
theorem dX7_means_4 : decode cX7_means 4 = .ok (.ifCond .eq 11, 3) := by decide +kernel
theorem dX7_means_7 : decode cX7_means 7 = .ok (.aload_n 0, 1) := by decide +kernel
theorem dX7_means_8 : decode cX7_means 8 = .ok (.iload_n 1, 1) := by decide +kernel
theorem dX7_means_9 : decode cX7_means 9 = .ok (.invokevirtual 154, 3) := by decide +kernel
theorem dX7_means_12 : decode cX7_means 12 = .ok (.goto 4, 3) := by decide +kernel
theorem dX7_means_15 : decode cX7_means 15 = .ok (.iconst (-1), 1) := by decide +kernel
theorem dX7_means_16 : decode cX7_means 16 = .ok (.ireturn, 1) := by decide +kernel
theorem dX7_leastOf_0 : decode cX7_leastOf 0 = .ok (.iconst 0, 1) := by decide +kernel
theorem dX7_leastOf_1 : decode cX7_leastOf 1 = .ok (.istore_n 2, 1) := by decide +kernel
theorem dX7_leastOf_2 : decode cX7_leastOf 2 = .ok (.iload_n 2, 1) := by decide +kernel
theorem dX7_leastOf_3 : decode cX7_leastOf 3 = .ok (.aload_n 0, 1) := by decide +kernel
theorem dX7_leastOf_4 : decode cX7_leastOf 4 = .ok (.getfield 20, 3) := by decide +kernel
theorem dX7_leastOf_7 : decode cX7_leastOf 7 = .ok (.iconst 0, 1) := by decide +kernel
theorem dX7_leastOf_8 : decode cX7_leastOf 8 = .ok (.iaload, 1) := by decide +kernel
theorem dX7_leastOf_9 : decode cX7_leastOf 9 = .ok (.if_icmp .ge 21, 3) := by decide +kernel
theorem dX7_leastOf_12 : decode cX7_leastOf 12 = .ok (.aload_n 0, 1) := by decide +kernel
theorem dX7_leastOf_13 : decode cX7_leastOf 13 = .ok (.getfield 29, 3) := by decide +kernel
theorem dX7_leastOf_16 : decode cX7_leastOf 16 = .ok (.iload_n 2, 1) := by decide +kernel
theorem dX7_leastOf_17 : decode cX7_leastOf 17 = .ok (.iaload, 1) := by decide +kernel
theorem dX7_leastOf_18 : decode cX7_leastOf 18 = .ok (.iload_n 1, 1) := by decide +kernel
theorem dX7_leastOf_19 : decode cX7_leastOf 19 = .ok (.if_icmp .ne 5, 3) := by decide +kernel
theorem dX7_leastOf_22 : decode cX7_leastOf 22 = .ok (.iload_n 2, 1) := by decide +kernel
theorem dX7_leastOf_23 : decode cX7_leastOf 23 = .ok (.ireturn, 1) := by decide +kernel
theorem dX7_leastOf_24 : decode cX7_leastOf 24 = .ok (.iinc 2 1, 3) := by decide +kernel
theorem dX7_leastOf_27 : decode cX7_leastOf 27 = .ok (.goto (-25), 3) := by decide +kernel
theorem dX7_leastOf_30 : decode cX7_leastOf 30 = .ok (.bipush (-9), 2) := by decide +kernel
theorem dX7_leastOf_32 : decode cX7_leastOf 32 = .ok (.ireturn, 1) := by decide +kernel
theorem dX7_common_0 : decode cX7_common 0 = .ok (.lload_n 0, 1) := by decide +kernel
theorem dX7_common_1 : decode cX7_common 1 = .ok (.lstore 4, 2) := by decide +kernel
theorem dX7_common_3 : decode cX7_common 3 = .ok (.lload_n 2, 1) := by decide +kernel
theorem dX7_common_4 : decode cX7_common 4 = .ok (.lstore 6, 2) := by decide +kernel
theorem dX7_common_6 : decode cX7_common 6 = .ok (.lload 6, 2) := by decide +kernel
theorem dX7_common_8 : decode cX7_common 8 = .ok (.lconst 0, 1) := by decide +kernel
theorem dX7_common_9 : decode cX7_common 9 = .ok (.lcmp, 1) := by decide +kernel
theorem dX7_common_10 : decode cX7_common 10 = .ok (.ifCond .eq 21, 3) := by decide +kernel
theorem dX7_common_13 : decode cX7_common 13 = .ok (.lload 4, 2) := by decide +kernel
theorem dX7_common_15 : decode cX7_common 15 = .ok (.lload 6, 2) := by decide +kernel
theorem dX7_common_17 : decode cX7_common 17 = .ok (.lrem, 1) := by decide +kernel
theorem dX7_common_18 : decode cX7_common 18 = .ok (.lstore 8, 2) := by decide +kernel
theorem dX7_common_20 : decode cX7_common 20 = .ok (.lload 6, 2) := by decide +kernel
theorem dX7_common_22 : decode cX7_common 22 = .ok (.lstore 4, 2) := by decide +kernel
theorem dX7_common_24 : decode cX7_common 24 = .ok (.lload 8, 2) := by decide +kernel
theorem dX7_common_26 : decode cX7_common 26 = .ok (.lstore 6, 2) := by decide +kernel
theorem dX7_common_28 : decode cX7_common 28 = .ok (.goto (-22), 3) := by decide +kernel
theorem dX7_common_31 : decode cX7_common 31 = .ok (.lload 4, 2) := by decide +kernel
theorem dX7_common_33 : decode cX7_common 33 = .ok (.lreturn, 1) := by decide +kernel
theorem dX7_chain_0 : decode cX7_chain 0 = .ok (.iload_n 1, 1) := by decide +kernel
theorem dX7_chain_1 : decode cX7_chain 1 = .ok (.iconst 0, 1) := by decide +kernel
theorem dX7_chain_2 : decode cX7_chain 2 = .ok (.bipush 7, 2) := by decide +kernel
theorem dX7_chain_4 : decode cX7_chain 4 = .ok (.invokestatic 61, 3) := by decide +kernel
theorem dX7_chain_7 : decode cX7_chain 7 = .ok (.ifCond .eq 21, 3) := by decide +kernel
theorem dX7_chain_10 : decode cX7_chain 10 = .ok (.iload_n 2, 1) := by decide +kernel
theorem dX7_chain_11 : decode cX7_chain 11 = .ok (.iconst 1, 1) := by decide +kernel
theorem dX7_chain_12 : decode cX7_chain 12 = .ok (.iconst 4, 1) := by decide +kernel
theorem dX7_chain_13 : decode cX7_chain 13 = .ok (.invokestatic 61, 3) := by decide +kernel
theorem dX7_chain_16 : decode cX7_chain 16 = .ok (.ifCond .eq 12, 3) := by decide +kernel
theorem dX7_chain_19 : decode cX7_chain 19 = .ok (.iload_n 3, 1) := by decide +kernel
theorem dX7_chain_20 : decode cX7_chain 20 = .ok (.iconst 0, 1) := by decide +kernel
theorem dX7_chain_21 : decode cX7_chain 21 = .ok (.iconst 1, 1) := by decide +kernel
theorem dX7_chain_22 : decode cX7_chain 22 = .ok (.invokestatic 61, 3) := by decide +kernel
theorem dX7_chain_25 : decode cX7_chain 25 = .ok (.ifCond .ne 7, 3) := by decide +kernel
theorem dX7_chain_28 : decode cX7_chain 28 = .ok (.ldc2_w 157, 3) := by decide +kernel
theorem dX7_chain_31 : decode cX7_chain 31 = .ok (.lreturn, 1) := by decide +kernel
theorem dX7_chain_32 : decode cX7_chain 32 = .ok (.aload_n 0, 1) := by decide +kernel
theorem dX7_chain_33 : decode cX7_chain 33 = .ok (.iload_n 1, 1) := by decide +kernel
theorem dX7_chain_34 : decode cX7_chain 34 = .ok (.invokevirtual 159, 3) := by decide +kernel
theorem dX7_chain_37 : decode cX7_chain 37 = .ok (.bipush (-9), 2) := by decide +kernel
theorem dX7_chain_39 : decode cX7_chain 39 = .ok (.if_icmp .ne 6, 3) := by decide +kernel
theorem dX7_chain_42 : decode cX7_chain 42 = .ok (.iload_n 3, 1) := by decide +kernel
theorem dX7_chain_43 : decode cX7_chain 43 = .ok (.i2l, 1) := by decide +kernel
theorem dX7_chain_44 : decode cX7_chain 44 = .ok (.lreturn, 1) := by decide +kernel
theorem dX7_chain_45 : decode cX7_chain 45 = .ok (.lconst 1, 1) := by decide +kernel
theorem dX7_chain_46 : decode cX7_chain 46 = .ok (.lstore 4, 2) := by decide +kernel
theorem dX7_chain_48 : decode cX7_chain 48 = .ok (.iconst 0, 1) := by decide +kernel
theorem dX7_chain_49 : decode cX7_chain 49 = .ok (.istore 6, 2) := by decide +kernel
theorem dX7_chain_51 : decode cX7_chain 51 = .ok (.iload 6, 2) := by decide +kernel
theorem dX7_chain_53 : decode cX7_chain 53 = .ok (.bipush 8, 2) := by decide +kernel
theorem dX7_chain_55 : decode cX7_chain 55 = .ok (.if_icmp .ge 27, 3) := by decide +kernel
theorem dX7_chain_58 : decode cX7_chain 58 = .ok (.aload_n 0, 1) := by decide +kernel
theorem dX7_chain_59 : decode cX7_chain 59 = .ok (.getfield 51, 3) := by decide +kernel
theorem dX7_chain_62 : decode cX7_chain 62 = .ok (.iload 6, 2) := by decide +kernel
theorem dX7_chain_64 : decode cX7_chain 64 = .ok (.iload 6, 2) := by decide +kernel
theorem dX7_chain_66 : decode cX7_chain 66 = .ok (.iload_n 1, 1) := by decide +kernel
theorem dX7_chain_67 : decode cX7_chain 67 = .ok (.if_icmp .ne 7, 3) := by decide +kernel
theorem dX7_chain_70 : decode cX7_chain 70 = .ok (.lconst 1, 1) := by decide +kernel
theorem dX7_chain_71 : decode cX7_chain 71 = .ok (.goto 4, 3) := by decide +kernel
theorem dX7_chain_74 : decode cX7_chain 74 = .ok (.lconst 0, 1) := by decide +kernel
theorem dX7_chain_75 : decode cX7_chain 75 = .ok (.lastore, 1) := by decide +kernel
theorem dX7_chain_76 : decode cX7_chain 76 = .ok (.iinc 6 1, 3) := by decide +kernel
theorem dX7_chain_79 : decode cX7_chain 79 = .ok (.goto (-28), 3) := by decide +kernel
theorem dX7_chain_82 : decode cX7_chain 82 = .ok (.iconst 0, 1) := by decide +kernel
theorem dX7_chain_83 : decode cX7_chain 83 = .ok (.istore 6, 2) := by decide +kernel
theorem dX7_chain_85 : decode cX7_chain 85 = .ok (.iload 6, 2) := by decide +kernel
theorem dX7_chain_87 : decode cX7_chain 87 = .ok (.iload_n 2, 1) := by decide +kernel
theorem dX7_chain_88 : decode cX7_chain 88 = .ok (.if_icmp .ge 166, 3) := by decide +kernel
theorem dX7_chain_91 : decode cX7_chain 91 = .ok (.lload 4, 2) := by decide +kernel
theorem dX7_chain_93 : decode cX7_chain 93 = .ok (.ldc2_w 162, 3) := by decide +kernel
theorem dX7_chain_96 : decode cX7_chain 96 = .ok (.lmul, 1) := by decide +kernel
theorem dX7_chain_97 : decode cX7_chain 97 = .ok (.lstore 4, 2) := by decide +kernel
theorem dX7_chain_99 : decode cX7_chain 99 = .ok (.iconst 0, 1) := by decide +kernel
theorem dX7_chain_100 : decode cX7_chain 100 = .ok (.istore 7, 2) := by decide +kernel
theorem dX7_chain_102 : decode cX7_chain 102 = .ok (.iload 7, 2) := by decide +kernel
theorem dX7_chain_104 : decode cX7_chain 104 = .ok (.bipush 8, 2) := by decide +kernel
theorem dX7_chain_106 : decode cX7_chain 106 = .ok (.if_icmp .ge 17, 3) := by decide +kernel
theorem dX7_chain_109 : decode cX7_chain 109 = .ok (.aload_n 0, 1) := by decide +kernel
theorem dX7_chain_110 : decode cX7_chain 110 = .ok (.getfield 55, 3) := by decide +kernel
theorem dX7_chain_113 : decode cX7_chain 113 = .ok (.iload 7, 2) := by decide +kernel
theorem dX7_chain_115 : decode cX7_chain 115 = .ok (.lconst 0, 1) := by decide +kernel
theorem dX7_chain_116 : decode cX7_chain 116 = .ok (.lastore, 1) := by decide +kernel
theorem dX7_chain_117 : decode cX7_chain 117 = .ok (.iinc 7 1, 3) := by decide +kernel
theorem dX7_chain_120 : decode cX7_chain 120 = .ok (.goto (-18), 3) := by decide +kernel
theorem dX7_chain_123 : decode cX7_chain 123 = .ok (.iconst 0, 1) := by decide +kernel
theorem dX7_chain_124 : decode cX7_chain 124 = .ok (.istore 7, 2) := by decide +kernel
theorem dX7_chain_126 : decode cX7_chain 126 = .ok (.iload 7, 2) := by decide +kernel
theorem dX7_chain_128 : decode cX7_chain 128 = .ok (.bipush 8, 2) := by decide +kernel
theorem dX7_chain_130 : decode cX7_chain 130 = .ok (.if_icmp .ge 88, 3) := by decide +kernel
theorem dX7_chain_133 : decode cX7_chain 133 = .ok (.iconst 0, 1) := by decide +kernel
theorem dX7_chain_134 : decode cX7_chain 134 = .ok (.istore 8, 2) := by decide +kernel
theorem dX7_chain_136 : decode cX7_chain 136 = .ok (.iload 8, 2) := by decide +kernel
theorem dX7_chain_138 : decode cX7_chain 138 = .ok (.bipush 8, 2) := by decide +kernel
theorem dX7_chain_140 : decode cX7_chain 140 = .ok (.if_icmp .ge 72, 3) := by decide +kernel
theorem dX7_chain_143 : decode cX7_chain 143 = .ok (.aload_n 0, 1) := by decide +kernel
theorem dX7_chain_144 : decode cX7_chain 144 = .ok (.getfield 51, 3) := by decide +kernel
theorem dX7_chain_147 : decode cX7_chain 147 = .ok (.iload 7, 2) := by decide +kernel
theorem dX7_chain_149 : decode cX7_chain 149 = .ok (.laload, 1) := by decide +kernel
theorem dX7_chain_150 : decode cX7_chain 150 = .ok (.lconst 0, 1) := by decide +kernel
theorem dX7_chain_151 : decode cX7_chain 151 = .ok (.lcmp, 1) := by decide +kernel
theorem dX7_chain_152 : decode cX7_chain 152 = .ok (.ifCond .le 60, 3) := by decide +kernel
theorem dX7_chain_155 : decode cX7_chain 155 = .ok (.aload_n 0, 1) := by decide +kernel
theorem dX7_chain_156 : decode cX7_chain 156 = .ok (.iload 8, 2) := by decide +kernel
theorem dX7_chain_158 : decode cX7_chain 158 = .ok (.invokevirtual 154, 3) := by decide +kernel
theorem dX7_chain_161 : decode cX7_chain 161 = .ok (.istore 9, 2) := by decide +kernel
theorem dX7_chain_163 : decode cX7_chain 163 = .ok (.iload 9, 2) := by decide +kernel
theorem dX7_chain_165 : decode cX7_chain 165 = .ok (.bipush (-9), 2) := by decide +kernel
theorem dX7_chain_167 : decode cX7_chain 167 = .ok (.if_icmp .eq 39, 3) := by decide +kernel
theorem dX7_chain_170 : decode cX7_chain 170 = .ok (.aload_n 0, 1) := by decide +kernel
theorem dX7_chain_171 : decode cX7_chain 171 = .ok (.getfield 55, 3) := by decide +kernel
theorem dX7_chain_174 : decode cX7_chain 174 = .ok (.iload 9, 2) := by decide +kernel
theorem dX7_chain_176 : decode cX7_chain 176 = .ok (.dup2, 1) := by decide +kernel
theorem dX7_chain_177 : decode cX7_chain 177 = .ok (.laload, 1) := by decide +kernel
theorem dX7_chain_178 : decode cX7_chain 178 = .ok (.aload_n 0, 1) := by decide +kernel
theorem dX7_chain_179 : decode cX7_chain 179 = .ok (.getfield 51, 3) := by decide +kernel
theorem dX7_chain_182 : decode cX7_chain 182 = .ok (.iload 7, 2) := by decide +kernel
theorem dX7_chain_184 : decode cX7_chain 184 = .ok (.laload, 1) := by decide +kernel
theorem dX7_chain_185 : decode cX7_chain 185 = .ok (.aload_n 0, 1) := by decide +kernel
theorem dX7_chain_186 : decode cX7_chain 186 = .ok (.aload_n 0, 1) := by decide +kernel
theorem dX7_chain_187 : decode cX7_chain 187 = .ok (.getfield 26, 3) := by decide +kernel
theorem dX7_chain_190 : decode cX7_chain 190 = .ok (.aload_n 0, 1) := by decide +kernel
theorem dX7_chain_191 : decode cX7_chain 191 = .ok (.iload 7, 2) := by decide +kernel
theorem dX7_chain_193 : decode cX7_chain 193 = .ok (.invokevirtual 159, 3) := by decide +kernel
theorem dX7_chain_196 : decode cX7_chain 196 = .ok (.iaload, 1) := by decide +kernel
theorem dX7_chain_197 : decode cX7_chain 197 = .ok (.iload 8, 2) := by decide +kernel
theorem dX7_chain_199 : decode cX7_chain 199 = .ok (.invokevirtual 151, 3) := by decide +kernel
theorem dX7_chain_202 : decode cX7_chain 202 = .ok (.i2l, 1) := by decide +kernel
theorem dX7_chain_203 : decode cX7_chain 203 = .ok (.lmul, 1) := by decide +kernel
theorem dX7_chain_204 : decode cX7_chain 204 = .ok (.ladd, 1) := by decide +kernel
theorem dX7_chain_205 : decode cX7_chain 205 = .ok (.lastore, 1) := by decide +kernel
theorem dX7_chain_206 : decode cX7_chain 206 = .ok (.iinc 8 1, 3) := by decide +kernel
theorem dX7_chain_209 : decode cX7_chain 209 = .ok (.goto (-73), 3) := by decide +kernel
theorem dX7_chain_212 : decode cX7_chain 212 = .ok (.iinc 7 1, 3) := by decide +kernel
theorem dX7_chain_215 : decode cX7_chain 215 = .ok (.goto (-89), 3) := by decide +kernel
theorem dX7_chain_218 : decode cX7_chain 218 = .ok (.iconst 0, 1) := by decide +kernel
theorem dX7_chain_219 : decode cX7_chain 219 = .ok (.istore 7, 2) := by decide +kernel
theorem dX7_chain_221 : decode cX7_chain 221 = .ok (.iload 7, 2) := by decide +kernel
theorem dX7_chain_223 : decode cX7_chain 223 = .ok (.bipush 8, 2) := by decide +kernel
theorem dX7_chain_225 : decode cX7_chain 225 = .ok (.if_icmp .ge 23, 3) := by decide +kernel
theorem dX7_chain_228 : decode cX7_chain 228 = .ok (.aload_n 0, 1) := by decide +kernel
theorem dX7_chain_229 : decode cX7_chain 229 = .ok (.getfield 51, 3) := by decide +kernel
theorem dX7_chain_232 : decode cX7_chain 232 = .ok (.iload 7, 2) := by decide +kernel
theorem dX7_chain_234 : decode cX7_chain 234 = .ok (.aload_n 0, 1) := by decide +kernel
theorem dX7_chain_235 : decode cX7_chain 235 = .ok (.getfield 55, 3) := by decide +kernel
theorem dX7_chain_238 : decode cX7_chain 238 = .ok (.iload 7, 2) := by decide +kernel
theorem dX7_chain_240 : decode cX7_chain 240 = .ok (.laload, 1) := by decide +kernel
theorem dX7_chain_241 : decode cX7_chain 241 = .ok (.lastore, 1) := by decide +kernel
theorem dX7_chain_242 : decode cX7_chain 242 = .ok (.iinc 7 1, 3) := by decide +kernel
theorem dX7_chain_245 : decode cX7_chain 245 = .ok (.goto (-24), 3) := by decide +kernel
theorem dX7_chain_248 : decode cX7_chain 248 = .ok (.iinc 6 1, 3) := by decide +kernel
theorem dX7_chain_251 : decode cX7_chain 251 = .ok (.goto (-166), 3) := by decide +kernel
theorem dX7_chain_254 : decode cX7_chain 254 = .ok (.aload_n 0, 1) := by decide +kernel
theorem dX7_chain_255 : decode cX7_chain 255 = .ok (.getfield 51, 3) := by decide +kernel
theorem dX7_chain_258 : decode cX7_chain 258 = .ok (.iload_n 1, 1) := by decide +kernel
theorem dX7_chain_259 : decode cX7_chain 259 = .ok (.laload, 1) := by decide +kernel
theorem dX7_chain_260 : decode cX7_chain 260 = .ok (.lload 4, 2) := by decide +kernel
theorem dX7_chain_262 : decode cX7_chain 262 = .ok (.invokestatic 164, 3) := by decide +kernel
theorem dX7_chain_265 : decode cX7_chain 265 = .ok (.lstore 6, 2) := by decide +kernel
theorem dX7_chain_267 : decode cX7_chain 267 = .ok (.iload_n 3, 1) := by decide +kernel
theorem dX7_chain_268 : decode cX7_chain 268 = .ok (.ifCond .ne 15, 3) := by decide +kernel
theorem dX7_chain_271 : decode cX7_chain 271 = .ok (.aload_n 0, 1) := by decide +kernel
theorem dX7_chain_272 : decode cX7_chain 272 = .ok (.getfield 51, 3) := by decide +kernel
theorem dX7_chain_275 : decode cX7_chain 275 = .ok (.iload_n 1, 1) := by decide +kernel
theorem dX7_chain_276 : decode cX7_chain 276 = .ok (.laload, 1) := by decide +kernel
theorem dX7_chain_277 : decode cX7_chain 277 = .ok (.lload 6, 2) := by decide +kernel
theorem dX7_chain_279 : decode cX7_chain 279 = .ok (.ldiv, 1) := by decide +kernel
theorem dX7_chain_280 : decode cX7_chain 280 = .ok (.goto 8, 3) := by decide +kernel
theorem dX7_chain_283 : decode cX7_chain 283 = .ok (.lload 4, 2) := by decide +kernel
theorem dX7_chain_285 : decode cX7_chain 285 = .ok (.lload 6, 2) := by decide +kernel
theorem dX7_chain_287 : decode cX7_chain 287 = .ok (.ldiv, 1) := by decide +kernel
