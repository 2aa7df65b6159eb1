theorem dX7_chain_288 : decode cX7_chain 288 = .ok (.lreturn, 1) := by decide +kernel
theorem dX7_who_0 : decode cX7_who 0 = .ok (.iload_n 1, 1) := by decide +kernel
theorem dX7_who_1 : decode cX7_who 1 = .ok (.invokestatic 148, 3) := by decide +kernel
theorem dX7_who_4 : decode cX7_who 4 = .ok (.ifCond .eq 20, 3) := by decide +kernel
theorem dX7_who_7 : decode cX7_who 7 = .ok (.aload_n 0, 1) := by decide +kernel
theorem dX7_who_8 : decode cX7_who 8 = .ok (.iload_n 2, 1) := by decide +kernel
theorem dX7_who_9 : decode cX7_who 9 = .ok (.invokevirtual 111, 3) := by decide +kernel
theorem dX7_who_12 : decode cX7_who 12 = .ok (.ifCond .eq 12, 3) := by decide +kernel
theorem dX7_who_15 : decode cX7_who 15 = .ok (.iload_n 3, 1) := by decide +kernel
theorem dX7_who_16 : decode cX7_who 16 = .ok (.iconst 0, 1) := by decide +kernel
theorem dX7_who_17 : decode cX7_who 17 = .ok (.iconst 1, 1) := by decide +kernel
theorem dX7_who_18 : decode cX7_who 18 = .ok (.invokestatic 61, 3) := by decide +kernel
theorem dX7_who_21 : decode cX7_who 21 = .ok (.ifCond .ne 5, 3) := by decide +kernel
theorem dX7_who_24 : decode cX7_who 24 = .ok (.iconst (-1), 1) := by decide +kernel
theorem dX7_who_25 : decode cX7_who 25 = .ok (.ireturn, 1) := by decide +kernel
theorem dX7_who_26 : decode cX7_who 26 = .ok (.iconst 0, 1) := by decide +kernel
theorem dX7_who_27 : decode cX7_who 27 = .ok (.istore 4, 2) := by decide +kernel
theorem dX7_who_29 : decode cX7_who 29 = .ok (.iconst 0, 1) := by decide +kernel
theorem dX7_who_30 : decode cX7_who 30 = .ok (.istore 5, 2) := by decide +kernel
theorem dX7_who_32 : decode cX7_who 32 = .ok (.iconst 0, 1) := by decide +kernel
theorem dX7_who_33 : decode cX7_who 33 = .ok (.istore 6, 2) := by decide +kernel
theorem dX7_who_35 : decode cX7_who 35 = .ok (.iload 6, 2) := by decide +kernel
theorem dX7_who_37 : decode cX7_who 37 = .ok (.aload_n 0, 1) := by decide +kernel
theorem dX7_who_38 : decode cX7_who 38 = .ok (.getfield 13, 3) := by decide +kernel
theorem dX7_who_41 : decode cX7_who 41 = .ok (.iconst 0, 1) := by decide +kernel
theorem dX7_who_42 : decode cX7_who 42 = .ok (.iaload, 1) := by decide +kernel
theorem dX7_who_43 : decode cX7_who 43 = .ok (.if_icmp .ge 82, 3) := by decide +kernel
theorem dX7_who_46 : decode cX7_who 46 = .ok (.iconst 0, 1) := by decide +kernel
theorem dX7_who_47 : decode cX7_who 47 = .ok (.istore 7, 2) := by decide +kernel
theorem dX7_who_49 : decode cX7_who 49 = .ok (.iload 7, 2) := by decide +kernel
theorem dX7_who_51 : decode cX7_who 51 = .ok (.aload_n 0, 1) := by decide +kernel
theorem dX7_who_52 : decode cX7_who 52 = .ok (.getfield 20, 3) := by decide +kernel
theorem dX7_who_55 : decode cX7_who 55 = .ok (.iconst 0, 1) := by decide +kernel
theorem dX7_who_56 : decode cX7_who 56 = .ok (.iaload, 1) := by decide +kernel
theorem dX7_who_57 : decode cX7_who 57 = .ok (.if_icmp .ge 62, 3) := by decide +kernel
theorem dX7_who_60 : decode cX7_who 60 = .ok (.aload_n 0, 1) := by decide +kernel
theorem dX7_who_61 : decode cX7_who 61 = .ok (.iload 6, 2) := by decide +kernel
theorem dX7_who_63 : decode cX7_who 63 = .ok (.iload 7, 2) := by decide +kernel
theorem dX7_who_65 : decode cX7_who 65 = .ok (.invokevirtual 124, 3) := by decide +kernel
theorem dX7_who_68 : decode cX7_who 68 = .ok (.ifCond .eq 18, 3) := by decide +kernel
theorem dX7_who_71 : decode cX7_who 71 = .ok (.aload_n 0, 1) := by decide +kernel
theorem dX7_who_72 : decode cX7_who 72 = .ok (.aload_n 0, 1) := by decide +kernel
theorem dX7_who_73 : decode cX7_who 73 = .ok (.getfield 26, 3) := by decide +kernel
theorem dX7_who_76 : decode cX7_who 76 = .ok (.iload 7, 2) := by decide +kernel
theorem dX7_who_78 : decode cX7_who 78 = .ok (.iaload, 1) := by decide +kernel
theorem dX7_who_79 : decode cX7_who 79 = .ok (.iload_n 1, 1) := by decide +kernel
theorem dX7_who_80 : decode cX7_who 80 = .ok (.invokevirtual 151, 3) := by decide +kernel
theorem dX7_who_83 : decode cX7_who 83 = .ok (.goto 4, 3) := by decide +kernel
theorem dX7_who_86 : decode cX7_who 86 = .ok (.iconst 0, 1) := by decide +kernel
theorem dX7_who_87 : decode cX7_who 87 = .ok (.istore 8, 2) := by decide +kernel
theorem dX7_who_89 : decode cX7_who 89 = .ok (.iload 4, 2) := by decide +kernel
theorem dX7_who_91 : decode cX7_who 91 = .ok (.iload 6, 2) := by decide +kernel
theorem dX7_who_93 : decode cX7_who 93 = .ok (.iload_n 2, 1) := by decide +kernel
theorem dX7_who_94 : decode cX7_who 94 = .ok (.if_icmp .ne 8, 3) := by decide +kernel
theorem dX7_who_97 : decode cX7_who 97 = .ok (.iload 8, 2) := by decide +kernel
theorem dX7_who_99 : decode cX7_who 99 = .ok (.goto 4, 3) := by decide +kernel
theorem dX7_who_102 : decode cX7_who 102 = .ok (.iconst 0, 1) := by decide +kernel
theorem dX7_who_103 : decode cX7_who 103 = .ok (.iadd, 1) := by decide +kernel
theorem dX7_who_104 : decode cX7_who 104 = .ok (.istore 4, 2) := by decide +kernel
theorem dX7_who_106 : decode cX7_who 106 = .ok (.iload 5, 2) := by decide +kernel
theorem dX7_who_108 : decode cX7_who 108 = .ok (.iload 8, 2) := by decide +kernel
theorem dX7_who_110 : decode cX7_who 110 = .ok (.iadd, 1) := by decide +kernel
theorem dX7_who_111 : decode cX7_who 111 = .ok (.istore 5, 2) := by decide +kernel
theorem dX7_who_113 : decode cX7_who 113 = .ok (.iinc 7 1, 3) := by decide +kernel
theorem dX7_who_116 : decode cX7_who 116 = .ok (.goto (-67), 3) := by decide +kernel
theorem dX7_who_119 : decode cX7_who 119 = .ok (.iinc 6 1, 3) := by decide +kernel
theorem dX7_who_122 : decode cX7_who 122 = .ok (.goto (-87), 3) := by decide +kernel
theorem dX7_who_125 : decode cX7_who 125 = .ok (.iload 5, 2) := by decide +kernel
theorem dX7_who_127 : decode cX7_who 127 = .ok (.ifCond .ne 6, 3) := by decide +kernel
theorem dX7_who_130 : decode cX7_who 130 = .ok (.bipush (-2), 2) := by decide +kernel
theorem dX7_who_132 : decode cX7_who 132 = .ok (.ireturn, 1) := by decide +kernel
theorem dX7_who_133 : decode cX7_who 133 = .ok (.iload 4, 2) := by decide +kernel
theorem dX7_who_135 : decode cX7_who 135 = .ok (.i2l, 1) := by decide +kernel
theorem dX7_who_136 : decode cX7_who 136 = .ok (.iload 5, 2) := by decide +kernel
theorem dX7_who_138 : decode cX7_who 138 = .ok (.i2l, 1) := by decide +kernel
theorem dX7_who_139 : decode cX7_who 139 = .ok (.invokestatic 164, 3) := by decide +kernel
theorem dX7_who_142 : decode cX7_who 142 = .ok (.l2i, 1) := by decide +kernel
theorem dX7_who_143 : decode cX7_who 143 = .ok (.istore 6, 2) := by decide +kernel
theorem dX7_who_145 : decode cX7_who 145 = .ok (.iload_n 3, 1) := by decide +kernel
theorem dX7_who_146 : decode cX7_who 146 = .ok (.ifCond .ne 11, 3) := by decide +kernel
theorem dX7_who_149 : decode cX7_who 149 = .ok (.iload 4, 2) := by decide +kernel
theorem dX7_who_151 : decode cX7_who 151 = .ok (.iload 6, 2) := by decide +kernel
theorem dX7_who_153 : decode cX7_who 153 = .ok (.idiv, 1) := by decide +kernel
theorem dX7_who_154 : decode cX7_who 154 = .ok (.goto 8, 3) := by decide +kernel
theorem dX7_who_157 : decode cX7_who 157 = .ok (.iload 5, 2) := by decide +kernel
theorem dX7_who_159 : decode cX7_who 159 = .ok (.iload 6, 2) := by decide +kernel
theorem dX7_who_161 : decode cX7_who 161 = .ok (.idiv, 1) := by decide +kernel
theorem dX7_who_162 : decode cX7_who 162 = .ok (.ireturn, 1) := by decide +kernel
theorem dX7_nextSupper_0 : decode cX7_nextSupper 0 = .ok (.bipush (-9), 2) := by decide +kernel
theorem dX7_nextSupper_2 : decode cX7_nextSupper 2 = .ok (.istore_n 1, 1) := by decide +kernel
theorem dX7_nextSupper_3 : decode cX7_nextSupper 3 = .ok (.iconst 0, 1) := by decide +kernel
theorem dX7_nextSupper_4 : decode cX7_nextSupper 4 = .ok (.istore_n 2, 1) := by decide +kernel
theorem dX7_nextSupper_5 : decode cX7_nextSupper 5 = .ok (.iload_n 2, 1) := by decide +kernel
theorem dX7_nextSupper_6 : decode cX7_nextSupper 6 = .ok (.aload_n 0, 1) := by decide +kernel
theorem dX7_nextSupper_7 : decode cX7_nextSupper 7 = .ok (.getfield 20, 3) := by decide +kernel
theorem dX7_nextSupper_10 : decode cX7_nextSupper 10 = .ok (.iconst 0, 1) := by decide +kernel
theorem dX7_nextSupper_11 : decode cX7_nextSupper 11 = .ok (.iaload, 1) := by decide +kernel
theorem dX7_nextSupper_12 : decode cX7_nextSupper 12 = .ok (.if_icmp .ge 90, 3) := by decide +kernel
theorem dX7_nextSupper_15 : decode cX7_nextSupper 15 = .ok (.iload_n 1, 1) := by decide +kernel
theorem dX7_nextSupper_16 : decode cX7_nextSupper 16 = .ok (.bipush (-9), 2) := by decide +kernel
theorem dX7_nextSupper_18 : decode cX7_nextSupper 18 = .ok (.if_icmp .eq 16, 3) := by decide +kernel
theorem dX7_nextSupper_21 : decode cX7_nextSupper 21 = .ok (.aload_n 0, 1) := by decide +kernel
theorem dX7_nextSupper_22 : decode cX7_nextSupper 22 = .ok (.iload_n 2, 1) := by decide +kernel
theorem dX7_nextSupper_23 : decode cX7_nextSupper 23 = .ok (.invokevirtual 121, 3) := by decide +kernel
theorem dX7_nextSupper_26 : decode cX7_nextSupper 26 = .ok (.aload_n 0, 1) := by decide +kernel
theorem dX7_nextSupper_27 : decode cX7_nextSupper 27 = .ok (.iload_n 1, 1) := by decide +kernel
theorem dX7_nextSupper_28 : decode cX7_nextSupper 28 = .ok (.invokevirtual 121, 3) := by decide +kernel
theorem dX7_nextSupper_31 : decode cX7_nextSupper 31 = .ok (.if_icmp .ge 7, 3) := by decide +kernel
theorem dX7_nextSupper_34 : decode cX7_nextSupper 34 = .ok (.iconst 1, 1) := by decide +kernel
theorem dX7_nextSupper_35 : decode cX7_nextSupper 35 = .ok (.goto 4, 3) := by decide +kernel
theorem dX7_nextSupper_38 : decode cX7_nextSupper 38 = .ok (.iconst 0, 1) := by decide +kernel
theorem dX7_nextSupper_39 : decode cX7_nextSupper 39 = .ok (.istore_n 3, 1) := by decide +kernel
theorem dX7_nextSupper_40 : decode cX7_nextSupper 40 = .ok (.iconst 0, 1) := by decide +kernel
theorem dX7_nextSupper_41 : decode cX7_nextSupper 41 = .ok (.istore 4, 2) := by decide +kernel
theorem dX7_nextSupper_43 : decode cX7_nextSupper 43 = .ok (.iload 4, 2) := by decide +kernel
theorem dX7_nextSupper_45 : decode cX7_nextSupper 45 = .ok (.iconst 5, 1) := by decide +kernel
theorem dX7_nextSupper_46 : decode cX7_nextSupper 46 = .ok (.if_icmp .ge 40, 3) := by decide +kernel
theorem dX7_nextSupper_49 : decode cX7_nextSupper 49 = .ok (.iload_n 3, 1) := by decide +kernel
theorem dX7_nextSupper_50 : decode cX7_nextSupper 50 = .ok (.ifCond .eq 28, 3) := by decide +kernel
theorem dX7_nextSupper_53 : decode cX7_nextSupper 53 = .ok (.aload_n 0, 1) := by decide +kernel
theorem dX7_nextSupper_54 : decode cX7_nextSupper 54 = .ok (.getfield 58, 3) := by decide +kernel
theorem dX7_nextSupper_57 : decode cX7_nextSupper 57 = .ok (.iload 4, 2) := by decide +kernel
theorem dX7_nextSupper_59 : decode cX7_nextSupper 59 = .ok (.iaload, 1) := by decide +kernel
theorem dX7_nextSupper_60 : decode cX7_nextSupper 60 = .ok (.aload_n 0, 1) := by decide +kernel
theorem dX7_nextSupper_61 : decode cX7_nextSupper 61 = .ok (.getfield 23, 3) := by decide +kernel
theorem dX7_nextSupper_64 : decode cX7_nextSupper 64 = .ok (.iconst 5, 1) := by decide +kernel
theorem dX7_nextSupper_65 : decode cX7_nextSupper 65 = .ok (.iload_n 2, 1) := by decide +kernel
theorem dX7_nextSupper_66 : decode cX7_nextSupper 66 = .ok (.imul, 1) := by decide +kernel
theorem dX7_nextSupper_67 : decode cX7_nextSupper 67 = .ok (.iload 4, 2) := by decide +kernel
theorem dX7_nextSupper_69 : decode cX7_nextSupper 69 = .ok (.iadd, 1) := by decide +kernel
theorem dX7_nextSupper_70 : decode cX7_nextSupper 70 = .ok (.iaload, 1) := by decide +kernel
theorem dX7_nextSupper_71 : decode cX7_nextSupper 71 = .ok (.if_icmp .lt 7, 3) := by decide +kernel
theorem dX7_nextSupper_74 : decode cX7_nextSupper 74 = .ok (.iconst 1, 1) := by decide +kernel
theorem dX7_nextSupper_75 : decode cX7_nextSupper 75 = .ok (.goto 4, 3) := by decide +kernel
theorem dX7_nextSupper_78 : decode cX7_nextSupper 78 = .ok (.iconst 0, 1) := by decide +kernel
theorem dX7_nextSupper_79 : decode cX7_nextSupper 79 = .ok (.istore_n 3, 1) := by decide +kernel
theorem dX7_nextSupper_80 : decode cX7_nextSupper 80 = .ok (.iinc 4 1, 3) := by decide +kernel
theorem dX7_nextSupper_83 : decode cX7_nextSupper 83 = .ok (.goto (-40), 3) := by decide +kernel
theorem dX7_nextSupper_86 : decode cX7_nextSupper 86 = .ok (.iload_n 3, 1) := by decide +kernel
theorem dX7_nextSupper_87 : decode cX7_nextSupper 87 = .ok (.ifCond .eq 7, 3) := by decide +kernel
theorem dX7_nextSupper_90 : decode cX7_nextSupper 90 = .ok (.iload_n 2, 1) := by decide +kernel
theorem dX7_nextSupper_91 : decode cX7_nextSupper 91 = .ok (.goto 4, 3) := by decide +kernel
theorem dX7_nextSupper_94 : decode cX7_nextSupper 94 = .ok (.iload_n 1, 1) := by decide +kernel
theorem dX7_nextSupper_95 : decode cX7_nextSupper 95 = .ok (.istore_n 1, 1) := by decide +kernel
theorem dX7_nextSupper_96 : decode cX7_nextSupper 96 = .ok (.iinc 2 1, 3) := by decide +kernel
theorem dX7_nextSupper_99 : decode cX7_nextSupper 99 = .ok (.goto (-94), 3) := by decide +kernel
theorem dX7_nextSupper_102 : decode cX7_nextSupper 102 = .ok (.iload_n 1, 1) := by decide +kernel
theorem dX7_nextSupper_103 : decode cX7_nextSupper 103 = .ok (.ireturn, 1) := by decide +kernel
theorem dX7_days_0 : decode cX7_days 0 = .ok (.aload_n 0, 1) := by decide +kernel
theorem dX7_days_1 : decode cX7_days 1 = .ok (.iload_n 1, 1) := by decide +kernel
theorem dX7_days_2 : decode cX7_days 2 = .ok (.invokevirtual 111, 3) := by decide +kernel
theorem dX7_days_5 : decode cX7_days 5 = .ok (.ifCond .ne 5, 3) := by decide +kernel
theorem dX7_days_8 : decode cX7_days 8 = .ok (.iconst (-1), 1) := by decide +kernel
theorem dX7_days_9 : decode cX7_days 9 = .ok (.ireturn, 1) := by decide +kernel
theorem dX7_days_10 : decode cX7_days 10 = .ok (.iconst 0, 1) := by decide +kernel
theorem dX7_days_11 : decode cX7_days 11 = .ok (.istore_n 2, 1) := by decide +kernel
theorem dX7_days_12 : decode cX7_days 12 = .ok (.iload_n 2, 1) := by decide +kernel
theorem dX7_days_13 : decode cX7_days 13 = .ok (.iconst 5, 1) := by decide +kernel
theorem dX7_days_14 : decode cX7_days 14 = .ok (.if_icmp .ge 25, 3) := by decide +kernel
theorem dX7_days_17 : decode cX7_days 17 = .ok (.aload_n 0, 1) := by decide +kernel
theorem dX7_days_18 : decode cX7_days 18 = .ok (.getfield 58, 3) := by decide +kernel
theorem dX7_days_21 : decode cX7_days 21 = .ok (.iload_n 2, 1) := by decide +kernel
theorem dX7_days_22 : decode cX7_days 22 = .ok (.aload_n 0, 1) := by decide +kernel
theorem dX7_days_23 : decode cX7_days 23 = .ok (.getfield 35, 3) := by decide +kernel
theorem dX7_days_26 : decode cX7_days 26 = .ok (.iconst 5, 1) := by decide +kernel
theorem dX7_days_27 : decode cX7_days 27 = .ok (.iload_n 1, 1) := by decide +kernel
theorem dX7_days_28 : decode cX7_days 28 = .ok (.imul, 1) := by decide +kernel
theorem dX7_days_29 : decode cX7_days 29 = .ok (.iload_n 2, 1) := by decide +kernel
theorem dX7_days_30 : decode cX7_days 30 = .ok (.iadd, 1) := by decide +kernel
theorem dX7_days_31 : decode cX7_days 31 = .ok (.iaload, 1) := by decide +kernel
theorem dX7_days_32 : decode cX7_days 32 = .ok (.iastore, 1) := by decide +kernel
theorem dX7_days_33 : decode cX7_days 33 = .ok (.iinc 2 1, 3) := by decide +kernel
theorem dX7_days_36 : decode cX7_days 36 = .ok (.goto (-24), 3) := by decide +kernel
theorem dX7_days_39 : decode cX7_days 39 = .ok (.iconst 0, 1) := by decide +kernel
theorem dX7_days_40 : decode cX7_days 40 = .ok (.istore_n 2, 1) := by decide +kernel
theorem dX7_days_41 : decode cX7_days 41 = .ok (.aload_n 0, 1) := by decide +kernel
theorem dX7_days_42 : decode cX7_days 42 = .ok (.invokevirtual 168, 3) := by decide +kernel
theorem dX7_days_45 : decode cX7_days 45 = .ok (.istore_n 3, 1) := by decide +kernel
theorem dX7_days_46 : decode cX7_days 46 = .ok (.iload_n 3, 1) := by decide +kernel
theorem dX7_days_47 : decode cX7_days 47 = .ok (.bipush (-9), 2) := by decide +kernel
theorem dX7_days_49 : decode cX7_days 49 = .ok (.if_icmp .eq 56, 3) := by decide +kernel
theorem dX7_days_52 : decode cX7_days 52 = .ok (.iload_n 2, 1) := by decide +kernel
theorem dX7_days_53 : decode cX7_days 53 = .ok (.bipush 30, 2) := by decide +kernel
theorem dX7_days_55 : decode cX7_days 55 = .ok (.if_icmp .ge 50, 3) := by decide +kernel
theorem dX7_days_58 : decode cX7_days 58 = .ok (.iconst 0, 1) := by decide +kernel
theorem dX7_days_59 : decode cX7_days 59 = .ok (.istore 4, 2) := by decide +kernel
theorem dX7_days_61 : decode cX7_days 61 = .ok (.iload 4, 2) := by decide +kernel
theorem dX7_days_63 : decode cX7_days 63 = .ok (.iconst 5, 1) := by decide +kernel
theorem dX7_days_64 : decode cX7_days 64 = .ok (.if_icmp .ge 30, 3) := by decide +kernel
theorem dX7_days_67 : decode cX7_days 67 = .ok (.aload_n 0, 1) := by decide +kernel
theorem dX7_days_68 : decode cX7_days 68 = .ok (.getfield 58, 3) := by decide +kernel
theorem dX7_days_71 : decode cX7_days 71 = .ok (.iload 4, 2) := by decide +kernel
theorem dX7_days_73 : decode cX7_days 73 = .ok (.dup2, 1) := by decide +kernel
theorem dX7_days_74 : decode cX7_days 74 = .ok (.iaload, 1) := by decide +kernel
theorem dX7_days_75 : decode cX7_days 75 = .ok (.aload_n 0, 1) := by decide +kernel
theorem dX7_days_76 : decode cX7_days 76 = .ok (.getfield 23, 3) := by decide +kernel
theorem dX7_days_79 : decode cX7_days 79 = .ok (.iconst 5, 1) := by decide +kernel
theorem dX7_days_80 : decode cX7_days 80 = .ok (.iload_n 3, 1) := by decide +kernel
theorem dX7_days_81 : decode cX7_days 81 = .ok (.imul, 1) := by decide +kernel
theorem dX7_days_82 : decode cX7_days 82 = .ok (.iload 4, 2) := by decide +kernel
theorem dX7_days_84 : decode cX7_days 84 = .ok (.iadd, 1) := by decide +kernel
theorem dX7_days_85 : decode cX7_days 85 = .ok (.iaload, 1) := by decide +kernel
theorem dX7_days_86 : decode cX7_days 86 = .ok (.isub, 1) := by decide +kernel
theorem dX7_days_87 : decode cX7_days 87 = .ok (.iastore, 1) := by decide +kernel
theorem dX7_days_88 : decode cX7_days 88 = .ok (.iinc 4 1, 3) := by decide +kernel
theorem dX7_days_91 : decode cX7_days 91 = .ok (.goto (-30), 3) := by decide +kernel
theorem dX7_days_94 : decode cX7_days 94 = .ok (.iinc 2 1, 3) := by decide +kernel
theorem dX7_days_97 : decode cX7_days 97 = .ok (.aload_n 0, 1) := by decide +kernel
theorem dX7_days_98 : decode cX7_days 98 = .ok (.invokevirtual 168, 3) := by decide +kernel
theorem dX7_days_101 : decode cX7_days 101 = .ok (.istore_n 3, 1) := by decide +kernel
theorem dX7_days_102 : decode cX7_days 102 = .ok (.goto (-56), 3) := by decide +kernel
theorem dX7_days_105 : decode cX7_days 105 = .ok (.iload_n 2, 1) := by decide +kernel
theorem dX7_days_106 : decode cX7_days 106 = .ok (.ireturn, 1) := by decide +kernel
theorem dX7_saidBy_0 : decode cX7_saidBy 0 = .ok (.iconst 0, 1) := by decide +kernel
theorem dX7_saidBy_1 : decode cX7_saidBy 1 = .ok (.istore 4, 2) := by decide +kernel
theorem dX7_saidBy_3 : decode cX7_saidBy 3 = .ok (.iconst 0, 1) := by decide +kernel
theorem dX7_saidBy_4 : decode cX7_saidBy 4 = .ok (.istore 5, 2) := by decide +kernel
theorem dX7_saidBy_6 : decode cX7_saidBy 6 = .ok (.iload 5, 2) := by decide +kernel
theorem dX7_saidBy_8 : decode cX7_saidBy 8 = .ok (.aload_n 0, 1) := by decide +kernel
theorem dX7_saidBy_9 : decode cX7_saidBy 9 = .ok (.getfield 20, 3) := by decide +kernel
theorem dX7_saidBy_12 : decode cX7_saidBy 12 = .ok (.iconst 0, 1) := by decide +kernel
theorem dX7_saidBy_13 : decode cX7_saidBy 13 = .ok (.iaload, 1) := by decide +kernel
theorem dX7_saidBy_14 : decode cX7_saidBy 14 = .ok (.if_icmp .ge 117, 3) := by decide +kernel
theorem dX7_saidBy_17 : decode cX7_saidBy 17 = .ok (.iload_n 1, 1) := by decide +kernel
theorem dX7_saidBy_18 : decode cX7_saidBy 18 = .ok (.iload 5, 2) := by decide +kernel
theorem dX7_saidBy_20 : decode cX7_saidBy 20 = .ok (.ishr, 1) := by decide +kernel
theorem dX7_saidBy_21 : decode cX7_saidBy 21 = .ok (.iconst 1, 1) := by decide +kernel
theorem dX7_saidBy_22 : decode cX7_saidBy 22 = .ok (.iand, 1) := by decide +kernel
theorem dX7_saidBy_23 : decode cX7_saidBy 23 = .ok (.iconst 1, 1) := by decide +kernel
theorem dX7_saidBy_24 : decode cX7_saidBy 24 = .ok (.if_icmp .ne 101, 3) := by decide +kernel
theorem dX7_saidBy_27 : decode cX7_saidBy 27 = .ok (.iload_n 2, 1) := by decide +kernel
theorem dX7_saidBy_28 : decode cX7_saidBy 28 = .ok (.aload_n 0, 1) := by decide +kernel
theorem dX7_saidBy_29 : decode cX7_saidBy 29 = .ok (.getfield 29, 3) := by decide +kernel
theorem dX7_saidBy_32 : decode cX7_saidBy 32 = .ok (.iload 5, 2) := by decide +kernel
theorem dX7_saidBy_34 : decode cX7_saidBy 34 = .ok (.iaload, 1) := by decide +kernel
theorem dX7_saidBy_35 : decode cX7_saidBy 35 = .ok (.ishr, 1) := by decide +kernel
theorem dX7_saidBy_36 : decode cX7_saidBy 36 = .ok (.iconst 1, 1) := by decide +kernel
theorem dX7_saidBy_37 : decode cX7_saidBy 37 = .ok (.iand, 1) := by decide +kernel
theorem dX7_saidBy_38 : decode cX7_saidBy 38 = .ok (.ifCond .eq 19, 3) := by decide +kernel
theorem dX7_saidBy_41 : decode cX7_saidBy 41 = .ok (.iload 4, 2) := by decide +kernel
theorem dX7_saidBy_43 : decode cX7_saidBy 43 = .ok (.aload_n 0, 1) := by decide +kernel
theorem dX7_saidBy_44 : decode cX7_saidBy 44 = .ok (.getfield 29, 3) := by decide +kernel
theorem dX7_saidBy_47 : decode cX7_saidBy 47 = .ok (.iload 5, 2) := by decide +kernel
theorem dX7_saidBy_49 : decode cX7_saidBy 49 = .ok (.iaload, 1) := by decide +kernel
theorem dX7_saidBy_50 : decode cX7_saidBy 50 = .ok (.ishr, 1) := by decide +kernel
theorem dX7_saidBy_51 : decode cX7_saidBy 51 = .ok (.iconst 1, 1) := by decide +kernel
theorem dX7_saidBy_52 : decode cX7_saidBy 52 = .ok (.iand, 1) := by decide +kernel
theorem dX7_saidBy_53 : decode cX7_saidBy 53 = .ok (.iconst 1, 1) := by decide +kernel
theorem dX7_saidBy_54 : decode cX7_saidBy 54 = .ok (.if_icmp .ne 6, 3) := by decide +kernel
theorem dX7_saidBy_57 : decode cX7_saidBy 57 = .ok (.bipush (-9), 2) := by decide +kernel
theorem dX7_saidBy_59 : decode cX7_saidBy 59 = .ok (.ireturn, 1) := by decide +kernel
theorem dX7_saidBy_60 : decode cX7_saidBy 60 = .ok (.iload 4, 2) := by decide +kernel
theorem dX7_saidBy_62 : decode cX7_saidBy 62 = .ok (.iconst 1, 1) := by decide +kernel
theorem dX7_saidBy_63 : decode cX7_saidBy 63 = .ok (.aload_n 0, 1) := by decide +kernel
theorem dX7_saidBy_64 : decode cX7_saidBy 64 = .ok (.getfield 29, 3) := by decide +kernel
theorem dX7_saidBy_67 : decode cX7_saidBy 67 = .ok (.iload 5, 2) := by decide +kernel
theorem dX7_saidBy_69 : decode cX7_saidBy 69 = .ok (.iaload, 1) := by decide +kernel
theorem dX7_saidBy_70 : decode cX7_saidBy 70 = .ok (.ishl, 1) := by decide +kernel
theorem dX7_saidBy_71 : decode cX7_saidBy 71 = .ok (.ior, 1) := by decide +kernel
theorem dX7_saidBy_72 : decode cX7_saidBy 72 = .ok (.istore 4, 2) := by decide +kernel
theorem dX7_saidBy_74 : decode cX7_saidBy 74 = .ok (.iconst 0, 1) := by decide +kernel
theorem dX7_saidBy_75 : decode cX7_saidBy 75 = .ok (.istore 6, 2) := by decide +kernel
theorem dX7_saidBy_77 : decode cX7_saidBy 77 = .ok (.iload 6, 2) := by decide +kernel
theorem dX7_saidBy_79 : decode cX7_saidBy 79 = .ok (.iload 5, 2) := by decide +kernel
theorem dX7_saidBy_81 : decode cX7_saidBy 81 = .ok (.if_icmp .ge 44, 3) := by decide +kernel
theorem dX7_saidBy_84 : decode cX7_saidBy 84 = .ok (.iload_n 1, 1) := by decide +kernel
theorem dX7_saidBy_85 : decode cX7_saidBy 85 = .ok (.iload 6, 2) := by decide +kernel
theorem dX7_saidBy_87 : decode cX7_saidBy 87 = .ok (.ishr, 1) := by decide +kernel
theorem dX7_saidBy_88 : decode cX7_saidBy 88 = .ok (.iconst 1, 1) := by decide +kernel
theorem dX7_saidBy_89 : decode cX7_saidBy 89 = .ok (.iand, 1) := by decide +kernel
theorem dX7_saidBy_90 : decode cX7_saidBy 90 = .ok (.iconst 1, 1) := by decide +kernel
theorem dX7_saidBy_91 : decode cX7_saidBy 91 = .ok (.if_icmp .ne 28, 3) := by decide +kernel
theorem dX7_saidBy_94 : decode cX7_saidBy 94 = .ok (.aload_n 0, 1) := by decide +kernel
theorem dX7_saidBy_95 : decode cX7_saidBy 95 = .ok (.getfield 26, 3) := by decide +kernel
theorem dX7_saidBy_98 : decode cX7_saidBy 98 = .ok (.iload 5, 2) := by decide +kernel
theorem dX7_saidBy_100 : decode cX7_saidBy 100 = .ok (.iaload, 1) := by decide +kernel
theorem dX7_saidBy_101 : decode cX7_saidBy 101 = .ok (.aload_n 0, 1) := by decide +kernel
theorem dX7_saidBy_102 : decode cX7_saidBy 102 = .ok (.getfield 26, 3) := by decide +kernel
theorem dX7_saidBy_105 : decode cX7_saidBy 105 = .ok (.iload 6, 2) := by decide +kernel
theorem dX7_saidBy_107 : decode cX7_saidBy 107 = .ok (.iaload, 1) := by decide +kernel
theorem dX7_saidBy_108 : decode cX7_saidBy 108 = .ok (.ixor, 1) := by decide +kernel
theorem dX7_saidBy_109 : decode cX7_saidBy 109 = .ok (.invokestatic 145, 3) := by decide +kernel
theorem dX7_saidBy_112 : decode cX7_saidBy 112 = .ok (.iload_n 3, 1) := by decide +kernel
theorem dX7_saidBy_113 : decode cX7_saidBy 113 = .ok (.if_icmp .ge 6, 3) := by decide +kernel
theorem dX7_saidBy_116 : decode cX7_saidBy 116 = .ok (.bipush (-9), 2) := by decide +kernel
theorem dX7_saidBy_118 : decode cX7_saidBy 118 = .ok (.ireturn, 1) := by decide +kernel
theorem dX7_saidBy_119 : decode cX7_saidBy 119 = .ok (.iinc 6 1, 3) := by decide +kernel
theorem dX7_saidBy_122 : decode cX7_saidBy 122 = .ok (.goto (-45), 3) := by decide +kernel
theorem dX7_saidBy_125 : decode cX7_saidBy 125 = .ok (.iinc 5 1, 3) := by decide +kernel
theorem dX7_saidBy_128 : decode cX7_saidBy 128 = .ok (.goto (-122), 3) := by decide +kernel
theorem dX7_saidBy_131 : decode cX7_saidBy 131 = .ok (.iload 4, 2) := by decide +kernel
theorem dX7_saidBy_133 : decode cX7_saidBy 133 = .ok (.ireturn, 1) := by decide +kernel
theorem dX7_code_0 : decode cX7_code 0 = .ok (.iload_n 1, 1) := by decide +kernel
theorem dX7_code_1 : decode cX7_code 1 = .ok (.iconst 0, 1) := by decide +kernel
theorem dX7_code_2 : decode cX7_code 2 = .ok (.sipush 255, 3) := by decide +kernel
theorem dX7_code_5 : decode cX7_code 5 = .ok (.invokestatic 61, 3) := by decide +kernel
theorem dX7_code_8 : decode cX7_code 8 = .ok (.ifCond .eq 21, 3) := by decide +kernel
theorem dX7_code_11 : decode cX7_code 11 = .ok (.iload_n 2, 1) := by decide +kernel
theorem dX7_code_12 : decode cX7_code 12 = .ok (.iconst 1, 1) := by decide +kernel
theorem dX7_code_13 : decode cX7_code 13 = .ok (.iconst 3, 1) := by decide +kernel
theorem dX7_code_14 : decode cX7_code 14 = .ok (.invokestatic 61, 3) := by decide +kernel
theorem dX7_code_17 : decode cX7_code 17 = .ok (.ifCond .eq 12, 3) := by decide +kernel
theorem dX7_code_20 : decode cX7_code 20 = .ok (.iload_n 3, 1) := by decide +kernel
theorem dX7_code_21 : decode cX7_code 21 = .ok (.iconst 0, 1) := by decide +kernel
theorem dX7_code_22 : decode cX7_code 22 = .ok (.iconst 1, 1) := by decide +kernel
theorem dX7_code_23 : decode cX7_code 23 = .ok (.invokestatic 61, 3) := by decide +kernel
theorem dX7_code_26 : decode cX7_code 26 = .ok (.ifCond .ne 5, 3) := by decide +kernel
theorem dX7_code_29 : decode cX7_code 29 = .ok (.iconst (-1), 1) := by decide +kernel
theorem dX7_code_30 : decode cX7_code 30 = .ok (.ireturn, 1) := by decide +kernel
theorem dX7_code_31 : decode cX7_code 31 = .ok (.bipush (-9), 2) := by decide +kernel
theorem dX7_code_33 : decode cX7_code 33 = .ok (.istore 4, 2) := by decide +kernel
theorem dX7_code_35 : decode cX7_code 35 = .ok (.iconst 0, 1) := by decide +kernel
theorem dX7_code_36 : decode cX7_code 36 = .ok (.istore 5, 2) := by decide +kernel
theorem dX7_code_38 : decode cX7_code 38 = .ok (.iconst 1, 1) := by decide +kernel
theorem dX7_code_39 : decode cX7_code 39 = .ok (.aload_n 0, 1) := by decide +kernel
theorem dX7_code_40 : decode cX7_code 40 = .ok (.getfield 20, 3) := by decide +kernel
theorem dX7_code_43 : decode cX7_code 43 = .ok (.iconst 0, 1) := by decide +kernel
theorem dX7_code_44 : decode cX7_code 44 = .ok (.iaload, 1) := by decide +kernel
theorem dX7_code_45 : decode cX7_code 45 = .ok (.ishl, 1) := by decide +kernel
theorem dX7_code_46 : decode cX7_code 46 = .ok (.iconst 1, 1) := by decide +kernel
theorem dX7_code_47 : decode cX7_code 47 = .ok (.isub, 1) := by decide +kernel
theorem dX7_code_48 : decode cX7_code 48 = .ok (.istore 6, 2) := by decide +kernel
theorem dX7_code_50 : decode cX7_code 50 = .ok (.iload 6, 2) := by decide +kernel
theorem dX7_code_52 : decode cX7_code 52 = .ok (.ifCond .lt 63, 3) := by decide +kernel
theorem dX7_code_55 : decode cX7_code 55 = .ok (.aload_n 0, 1) := by decide +kernel
theorem dX7_code_56 : decode cX7_code 56 = .ok (.iload 6, 2) := by decide +kernel
theorem dX7_code_58 : decode cX7_code 58 = .ok (.iload_n 1, 1) := by decide +kernel
theorem dX7_code_59 : decode cX7_code 59 = .ok (.iload_n 2, 1) := by decide +kernel
theorem dX7_code_60 : decode cX7_code 60 = .ok (.invokevirtual 171, 3) := by decide +kernel
theorem dX7_code_63 : decode cX7_code 63 = .ok (.istore 7, 2) := by decide +kernel
theorem dX7_code_65 : decode cX7_code 65 = .ok (.iload 7, 2) := by decide +kernel
theorem dX7_code_67 : decode cX7_code 67 = .ok (.iload_n 1, 1) := by decide +kernel
theorem dX7_code_68 : decode cX7_code 68 = .ok (.if_icmp .ne 8, 3) := by decide +kernel
theorem dX7_code_71 : decode cX7_code 71 = .ok (.iload 6, 2) := by decide +kernel
theorem dX7_code_73 : decode cX7_code 73 = .ok (.goto 5, 3) := by decide +kernel
theorem dX7_code_76 : decode cX7_code 76 = .ok (.iload 4, 2) := by decide +kernel
theorem dX7_code_78 : decode cX7_code 78 = .ok (.istore 4, 2) := by decide +kernel
theorem dX7_code_80 : decode cX7_code 80 = .ok (.iload 7, 2) := by decide +kernel
theorem dX7_code_82 : decode cX7_code 82 = .ok (.bipush (-9), 2) := by decide +kernel
theorem dX7_code_84 : decode cX7_code 84 = .ok (.if_icmp .eq 21, 3) := by decide +kernel
theorem dX7_code_87 : decode cX7_code 87 = .ok (.iload 6, 2) := by decide +kernel
theorem dX7_code_89 : decode cX7_code 89 = .ok (.invokestatic 145, 3) := by decide +kernel
theorem dX7_code_92 : decode cX7_code 92 = .ok (.iload 5, 2) := by decide +kernel
theorem dX7_code_94 : decode cX7_code 94 = .ok (.if_icmp .le 11, 3) := by decide +kernel
theorem dX7_code_97 : decode cX7_code 97 = .ok (.iload 6, 2) := by decide +kernel
theorem dX7_code_99 : decode cX7_code 99 = .ok (.invokestatic 145, 3) := by decide +kernel
theorem dX7_code_102 : decode cX7_code 102 = .ok (.goto 5, 3) := by decide +kernel
theorem dX7_code_105 : decode cX7_code 105 = .ok (.iload 5, 2) := by decide +kernel
theorem dX7_code_107 : decode cX7_code 107 = .ok (.istore 5, 2) := by decide +kernel
theorem dX7_code_109 : decode cX7_code 109 = .ok (.iinc 6 (-1), 3) := by decide +kernel
theorem dX7_code_112 : decode cX7_code 112 = .ok (.goto (-62), 3) := by decide +kernel
theorem dX7_code_115 : decode cX7_code 115 = .ok (.iload_n 3, 1) := by decide +kernel
theorem dX7_code_116 : decode cX7_code 116 = .ok (.ifCond .ne 8, 3) := by decide +kernel
theorem dX7_code_119 : decode cX7_code 119 = .ok (.iload 4, 2) := by decide +kernel
theorem dX7_code_121 : decode cX7_code 121 = .ok (.goto 5, 3) := by decide +kernel
theorem dX7_code_124 : decode cX7_code 124 = .ok (.iload 5, 2) := by decide +kernel
theorem dX7_code_126 : decode cX7_code 126 = .ok (.ireturn, 1) := by decide +kernel
theorem dX7_feast_0 : decode cX7_feast 0 = .ok (.iload_n 1, 1) := by decide +kernel
theorem dX7_feast_1 : decode cX7_feast 1 = .ok (.iconst 1, 1) := by decide +kernel
theorem dX7_feast_2 : decode cX7_feast 2 = .ok (.aload_n 0, 1) := by decide +kernel
theorem dX7_feast_3 : decode cX7_feast 3 = .ok (.getfield 20, 3) := by decide +kernel
theorem dX7_feast_6 : decode cX7_feast 6 = .ok (.iconst 0, 1) := by decide +kernel
theorem dX7_feast_7 : decode cX7_feast 7 = .ok (.iaload, 1) := by decide +kernel
theorem dX7_feast_8 : decode cX7_feast 8 = .ok (.ishl, 1) := by decide +kernel
theorem dX7_feast_9 : decode cX7_feast 9 = .ok (.iconst 1, 1) := by decide +kernel
theorem dX7_feast_10 : decode cX7_feast 10 = .ok (.isub, 1) := by decide +kernel
theorem dX7_feast_11 : decode cX7_feast 11 = .ok (.iand, 1) := by decide +kernel
theorem dX7_feast_12 : decode cX7_feast 12 = .ok (.istore_n 3, 1) := by decide +kernel
theorem dX7_feast_13 : decode cX7_feast 13 = .ok (.iload_n 3, 1) := by decide +kernel
theorem dX7_feast_14 : decode cX7_feast 14 = .ok (.ifCond .eq 12, 3) := by decide +kernel
theorem dX7_feast_17 : decode cX7_feast 17 = .ok (.iload_n 2, 1) := by decide +kernel
theorem dX7_feast_18 : decode cX7_feast 18 = .ok (.iconst 0, 1) := by decide +kernel
theorem dX7_feast_19 : decode cX7_feast 19 = .ok (.iconst 2, 1) := by decide +kernel
theorem dX7_feast_20 : decode cX7_feast 20 = .ok (.invokestatic 61, 3) := by decide +kernel
theorem dX7_feast_23 : decode cX7_feast 23 = .ok (.ifCond .ne 5, 3) := by decide +kernel
theorem dX7_feast_26 : decode cX7_feast 26 = .ok (.iconst (-1), 1) := by decide +kernel
theorem dX7_feast_27 : decode cX7_feast 27 = .ok (.ireturn, 1) := by decide +kernel
theorem dX7_feast_28 : decode cX7_feast 28 = .ok (.iconst 0, 1) := by decide +kernel
theorem dX7_feast_29 : decode cX7_feast 29 = .ok (.istore 4, 2) := by decide +kernel
theorem dX7_feast_31 : decode cX7_feast 31 = .ok (.iconst 0, 1) := by decide +kernel
theorem dX7_feast_32 : decode cX7_feast 32 = .ok (.istore 5, 2) := by decide +kernel
theorem dX7_feast_34 : decode cX7_feast 34 = .ok (.iconst 0, 1) := by decide +kernel
theorem dX7_feast_35 : decode cX7_feast 35 = .ok (.istore 6, 2) := by decide +kernel
theorem dX7_feast_37 : decode cX7_feast 37 = .ok (.iload 6, 2) := by decide +kernel
theorem dX7_feast_39 : decode cX7_feast 39 = .ok (.aload_n 0, 1) := by decide +kernel
theorem dX7_feast_40 : decode cX7_feast 40 = .ok (.getfield 20, 3) := by decide +kernel
theorem dX7_feast_43 : decode cX7_feast 43 = .ok (.iconst 0, 1) := by decide +kernel
theorem dX7_feast_44 : decode cX7_feast 44 = .ok (.iaload, 1) := by decide +kernel
theorem dX7_feast_45 : decode cX7_feast 45 = .ok (.if_icmp .ge 63, 3) := by decide +kernel
theorem dX7_feast_48 : decode cX7_feast 48 = .ok (.iload 4, 2) := by decide +kernel
theorem dX7_feast_50 : decode cX7_feast 50 = .ok (.iload_n 3, 1) := by decide +kernel
theorem dX7_feast_51 : decode cX7_feast 51 = .ok (.iload 6, 2) := by decide +kernel
theorem dX7_feast_53 : decode cX7_feast 53 = .ok (.ishr, 1) := by decide +kernel
theorem dX7_feast_54 : decode cX7_feast 54 = .ok (.iconst 1, 1) := by decide +kernel
theorem dX7_feast_55 : decode cX7_feast 55 = .ok (.iand, 1) := by decide +kernel
theorem dX7_feast_56 : decode cX7_feast 56 = .ok (.iconst 1, 1) := by decide +kernel
theorem dX7_feast_57 : decode cX7_feast 57 = .ok (.if_icmp .ne 13, 3) := by decide +kernel
theorem dX7_feast_60 : decode cX7_feast 60 = .ok (.aload_n 0, 1) := by decide +kernel
theorem dX7_feast_61 : decode cX7_feast 61 = .ok (.getfield 26, 3) := by decide +kernel
theorem dX7_feast_64 : decode cX7_feast 64 = .ok (.iload 6, 2) := by decide +kernel
theorem dX7_feast_66 : decode cX7_feast 66 = .ok (.iaload, 1) := by decide +kernel
theorem dX7_feast_67 : decode cX7_feast 67 = .ok (.goto 4, 3) := by decide +kernel
theorem dX7_feast_70 : decode cX7_feast 70 = .ok (.iconst 0, 1) := by decide +kernel
theorem dX7_feast_71 : decode cX7_feast 71 = .ok (.ior, 1) := by decide +kernel
theorem dX7_feast_72 : decode cX7_feast 72 = .ok (.istore 4, 2) := by decide +kernel
theorem dX7_feast_74 : decode cX7_feast 74 = .ok (.iload 5, 2) := by decide +kernel
theorem dX7_feast_76 : decode cX7_feast 76 = .ok (.iload_n 3, 1) := by decide +kernel
theorem dX7_feast_77 : decode cX7_feast 77 = .ok (.iload 6, 2) := by decide +kernel
theorem dX7_feast_79 : decode cX7_feast 79 = .ok (.ishr, 1) := by decide +kernel
theorem dX7_feast_80 : decode cX7_feast 80 = .ok (.iconst 1, 1) := by decide +kernel
theorem dX7_feast_81 : decode cX7_feast 81 = .ok (.iand, 1) := by decide +kernel
theorem dX7_feast_82 : decode cX7_feast 82 = .ok (.iconst 1, 1) := by decide +kernel
theorem dX7_feast_83 : decode cX7_feast 83 = .ok (.if_icmp .ne 15, 3) := by decide +kernel
theorem dX7_feast_86 : decode cX7_feast 86 = .ok (.iconst 1, 1) := by decide +kernel
theorem dX7_feast_87 : decode cX7_feast 87 = .ok (.aload_n 0, 1) := by decide +kernel
theorem dX7_feast_88 : decode cX7_feast 88 = .ok (.getfield 29, 3) := by decide +kernel
theorem dX7_feast_91 : decode cX7_feast 91 = .ok (.iload 6, 2) := by decide +kernel
theorem dX7_feast_93 : decode cX7_feast 93 = .ok (.iaload, 1) := by decide +kernel
theorem dX7_feast_94 : decode cX7_feast 94 = .ok (.ishl, 1) := by decide +kernel
theorem dX7_feast_95 : decode cX7_feast 95 = .ok (.goto 4, 3) := by decide +kernel
theorem dX7_feast_98 : decode cX7_feast 98 = .ok (.iconst 0, 1) := by decide +kernel
theorem dX7_feast_99 : decode cX7_feast 99 = .ok (.ior, 1) := by decide +kernel
theorem dX7_feast_100 : decode cX7_feast 100 = .ok (.istore 5, 2) := by decide +kernel
theorem dX7_feast_102 : decode cX7_feast 102 = .ok (.iinc 6 1, 3) := by decide +kernel
theorem dX7_feast_105 : decode cX7_feast 105 = .ok (.goto (-68), 3) := by decide +kernel
theorem dX7_feast_108 : decode cX7_feast 108 = .ok (.aload_n 0, 1) := by decide +kernel
theorem dX7_feast_109 : decode cX7_feast 109 = .ok (.iload 4, 2) := by decide +kernel
theorem dX7_feast_111 : decode cX7_feast 111 = .ok (.invokevirtual 154, 3) := by decide +kernel
theorem dX7_feast_114 : decode cX7_feast 114 = .ok (.istore 6, 2) := by decide +kernel
theorem dX7_feast_116 : decode cX7_feast 116 = .ok (.iload_n 2, 1) := by decide +kernel
theorem dX7_feast_117 : decode cX7_feast 117 = .ok (.ifCond .ne 8, 3) := by decide +kernel
theorem dX7_feast_120 : decode cX7_feast 120 = .ok (.iload 4, 2) := by decide +kernel
theorem dX7_feast_122 : decode cX7_feast 122 = .ok (.goto 29, 3) := by decide +kernel
theorem dX7_feast_125 : decode cX7_feast 125 = .ok (.iload_n 2, 1) := by decide +kernel
theorem dX7_feast_126 : decode cX7_feast 126 = .ok (.iconst 1, 1) := by decide +kernel
theorem dX7_feast_127 : decode cX7_feast 127 = .ok (.if_icmp .eq 10, 3) := by decide +kernel
theorem dX7_feast_130 : decode cX7_feast 130 = .ok (.iload 6, 2) := by decide +kernel
theorem dX7_feast_132 : decode cX7_feast 132 = .ok (.bipush (-9), 2) := by decide +kernel
theorem dX7_feast_134 : decode cX7_feast 134 = .ok (.if_icmp .ne 8, 3) := by decide +kernel
theorem dX7_feast_137 : decode cX7_feast 137 = .ok (.iload 6, 2) := by decide +kernel
theorem dX7_feast_139 : decode cX7_feast 139 = .ok (.goto 12, 3) := by decide +kernel
theorem dX7_feast_142 : decode cX7_feast 142 = .ok (.iconst 1, 1) := by decide +kernel
theorem dX7_feast_143 : decode cX7_feast 143 = .ok (.iload 5, 2) := by decide +kernel
theorem dX7_feast_145 : decode cX7_feast 145 = .ok (.iload 6, 2) := by decide +kernel
theorem dX7_feast_147 : decode cX7_feast 147 = .ok (.ishr, 1) := by decide +kernel
theorem dX7_feast_148 : decode cX7_feast 148 = .ok (.iconst 1, 1) := by decide +kernel
theorem dX7_feast_149 : decode cX7_feast 149 = .ok (.iand, 1) := by decide +kernel
theorem dX7_feast_150 : decode cX7_feast 150 = .ok (.isub, 1) := by decide +kernel
theorem dX7_feast_151 : decode cX7_feast 151 = .ok (.ireturn, 1) := by decide +kernel
theorem dX7_silent_0 : decode cX7_silent 0 = .ok (.iload_n 1, 1) := by decide +kernel
