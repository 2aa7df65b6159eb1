theorem dX7_silent_1 : decode cX7_silent 1 = .ok (.iconst 1, 1) := by decide +kernel
theorem dX7_silent_2 : decode cX7_silent 2 = .ok (.bipush 20, 2) := by decide +kernel
theorem dX7_silent_4 : decode cX7_silent 4 = .ok (.invokestatic 61, 3) := by decide +kernel
theorem dX7_silent_7 : decode cX7_silent 7 = .ok (.ifCond .ne 5, 3) := by decide +kernel
theorem dX7_silent_10 : decode cX7_silent 10 = .ok (.iconst (-1), 1) := by decide +kernel
theorem dX7_silent_11 : decode cX7_silent 11 = .ok (.ireturn, 1) := by decide +kernel
theorem dX7_silent_12 : decode cX7_silent 12 = .ok (.iconst 1, 1) := by decide +kernel
theorem dX7_silent_13 : decode cX7_silent 13 = .ok (.aload_n 0, 1) := by decide +kernel
theorem dX7_silent_14 : decode cX7_silent 14 = .ok (.getfield 13, 3) := by decide +kernel
theorem dX7_silent_17 : decode cX7_silent 17 = .ok (.iconst 0, 1) := by decide +kernel
theorem dX7_silent_18 : decode cX7_silent 18 = .ok (.iaload, 1) := by decide +kernel
theorem dX7_silent_19 : decode cX7_silent 19 = .ok (.ishl, 1) := by decide +kernel
theorem dX7_silent_20 : decode cX7_silent 20 = .ok (.iconst 1, 1) := by decide +kernel
theorem dX7_silent_21 : decode cX7_silent 21 = .ok (.isub, 1) := by decide +kernel
theorem dX7_silent_22 : decode cX7_silent 22 = .ok (.istore_n 2, 1) := by decide +kernel
theorem dX7_silent_23 : decode cX7_silent 23 = .ok (.iconst 0, 1) := by decide +kernel
theorem dX7_silent_24 : decode cX7_silent 24 = .ok (.istore_n 3, 1) := by decide +kernel
theorem dX7_silent_25 : decode cX7_silent 25 = .ok (.iload_n 3, 1) := by decide +kernel
theorem dX7_silent_26 : decode cX7_silent 26 = .ok (.aload_n 0, 1) := by decide +kernel
theorem dX7_silent_27 : decode cX7_silent 27 = .ok (.getfield 35, 3) := by decide +kernel
theorem dX7_silent_30 : decode cX7_silent 30 = .ok (.bipush 32, 2) := by decide +kernel
theorem dX7_silent_32 : decode cX7_silent 32 = .ok (.iaload, 1) := by decide +kernel
theorem dX7_silent_33 : decode cX7_silent 33 = .ok (.if_icmp .ge 44, 3) := by decide +kernel
theorem dX7_silent_36 : decode cX7_silent 36 = .ok (.iload_n 2, 1) := by decide +kernel
theorem dX7_silent_37 : decode cX7_silent 37 = .ok (.iload_n 3, 1) := by decide +kernel
theorem dX7_silent_38 : decode cX7_silent 38 = .ok (.aload_n 0, 1) := by decide +kernel
theorem dX7_silent_39 : decode cX7_silent 39 = .ok (.getfield 35, 3) := by decide +kernel
theorem dX7_silent_42 : decode cX7_silent 42 = .ok (.bipush 32, 2) := by decide +kernel
theorem dX7_silent_44 : decode cX7_silent 44 = .ok (.iaload, 1) := by decide +kernel
theorem dX7_silent_45 : decode cX7_silent 45 = .ok (.iload_n 1, 1) := by decide +kernel
theorem dX7_silent_46 : decode cX7_silent 46 = .ok (.isub, 1) := by decide +kernel
theorem dX7_silent_47 : decode cX7_silent 47 = .ok (.if_icmp .lt 21, 3) := by decide +kernel
theorem dX7_silent_50 : decode cX7_silent 50 = .ok (.iconst 1, 1) := by decide +kernel
theorem dX7_silent_51 : decode cX7_silent 51 = .ok (.aload_n 0, 1) := by decide +kernel
theorem dX7_silent_52 : decode cX7_silent 52 = .ok (.getfield 35, 3) := by decide +kernel
theorem dX7_silent_55 : decode cX7_silent 55 = .ok (.bipush 33, 2) := by decide +kernel
theorem dX7_silent_57 : decode cX7_silent 57 = .ok (.iconst 2, 1) := by decide +kernel
theorem dX7_silent_58 : decode cX7_silent 58 = .ok (.iload_n 3, 1) := by decide +kernel
theorem dX7_silent_59 : decode cX7_silent 59 = .ok (.imul, 1) := by decide +kernel
theorem dX7_silent_60 : decode cX7_silent 60 = .ok (.iadd, 1) := by decide +kernel
theorem dX7_silent_61 : decode cX7_silent 61 = .ok (.iaload, 1) := by decide +kernel
theorem dX7_silent_62 : decode cX7_silent 62 = .ok (.ishl, 1) := by decide +kernel
theorem dX7_silent_63 : decode cX7_silent 63 = .ok (.iconst (-1), 1) := by decide +kernel
theorem dX7_silent_64 : decode cX7_silent 64 = .ok (.ixor, 1) := by decide +kernel
theorem dX7_silent_65 : decode cX7_silent 65 = .ok (.goto 4, 3) := by decide +kernel
theorem dX7_silent_68 : decode cX7_silent 68 = .ok (.iconst (-1), 1) := by decide +kernel
theorem dX7_silent_69 : decode cX7_silent 69 = .ok (.iand, 1) := by decide +kernel
theorem dX7_silent_70 : decode cX7_silent 70 = .ok (.istore_n 2, 1) := by decide +kernel
theorem dX7_silent_71 : decode cX7_silent 71 = .ok (.iinc 3 1, 3) := by decide +kernel
theorem dX7_silent_74 : decode cX7_silent 74 = .ok (.goto (-49), 3) := by decide +kernel
theorem dX7_silent_77 : decode cX7_silent 77 = .ok (.iload_n 2, 1) := by decide +kernel
theorem dX7_silent_78 : decode cX7_silent 78 = .ok (.ireturn, 1) := by decide +kernel
theorem dX7_drawn_0 : decode cX7_drawn 0 = .ok (.iload_n 1, 1) := by decide +kernel
theorem dX7_drawn_1 : decode cX7_drawn 1 = .ok (.invokestatic 148, 3) := by decide +kernel
theorem dX7_drawn_4 : decode cX7_drawn 4 = .ok (.ifCond .ne 5, 3) := by decide +kernel
theorem dX7_drawn_7 : decode cX7_drawn 7 = .ok (.iconst (-1), 1) := by decide +kernel
theorem dX7_drawn_8 : decode cX7_drawn 8 = .ok (.ireturn, 1) := by decide +kernel
theorem dX7_drawn_9 : decode cX7_drawn 9 = .ok (.iload_n 1, 1) := by decide +kernel
theorem dX7_drawn_10 : decode cX7_drawn 10 = .ok (.istore_n 2, 1) := by decide +kernel
theorem dX7_drawn_11 : decode cX7_drawn 11 = .ok (.iconst 0, 1) := by decide +kernel
theorem dX7_drawn_12 : decode cX7_drawn 12 = .ok (.istore_n 3, 1) := by decide +kernel
theorem dX7_drawn_13 : decode cX7_drawn 13 = .ok (.iload_n 3, 1) := by decide +kernel
theorem dX7_drawn_14 : decode cX7_drawn 14 = .ok (.iconst 3, 1) := by decide +kernel
theorem dX7_drawn_15 : decode cX7_drawn 15 = .ok (.if_icmp .ge 63, 3) := by decide +kernel
theorem dX7_drawn_18 : decode cX7_drawn 18 = .ok (.aload_n 0, 1) := by decide +kernel
theorem dX7_drawn_19 : decode cX7_drawn 19 = .ok (.getfield 35, 3) := by decide +kernel
theorem dX7_drawn_22 : decode cX7_drawn 22 = .ok (.bipush 31, 2) := by decide +kernel
theorem dX7_drawn_24 : decode cX7_drawn 24 = .ok (.aload_n 0, 1) := by decide +kernel
theorem dX7_drawn_25 : decode cX7_drawn 25 = .ok (.getfield 35, 3) := by decide +kernel
theorem dX7_drawn_28 : decode cX7_drawn 28 = .ok (.bipush 31, 2) := by decide +kernel
theorem dX7_drawn_30 : decode cX7_drawn 30 = .ok (.iaload, 1) := by decide +kernel
theorem dX7_drawn_31 : decode cX7_drawn 31 = .ok (.ldc 175, 2) := by decide +kernel
theorem dX7_drawn_33 : decode cX7_drawn 33 = .ok (.imul, 1) := by decide +kernel
theorem dX7_drawn_34 : decode cX7_drawn 34 = .ok (.sipush 12345, 3) := by decide +kernel
theorem dX7_drawn_37 : decode cX7_drawn 37 = .ok (.iadd, 1) := by decide +kernel
theorem dX7_drawn_38 : decode cX7_drawn 38 = .ok (.iastore, 1) := by decide +kernel
theorem dX7_drawn_39 : decode cX7_drawn 39 = .ok (.iload_n 2, 1) := by decide +kernel
theorem dX7_drawn_40 : decode cX7_drawn 40 = .ok (.aload_n 0, 1) := by decide +kernel
theorem dX7_drawn_41 : decode cX7_drawn 41 = .ok (.getfield 35, 3) := by decide +kernel
theorem dX7_drawn_44 : decode cX7_drawn 44 = .ok (.bipush 31, 2) := by decide +kernel
theorem dX7_drawn_46 : decode cX7_drawn 46 = .ok (.iaload, 1) := by decide +kernel
theorem dX7_drawn_47 : decode cX7_drawn 47 = .ok (.bipush 16, 2) := by decide +kernel
theorem dX7_drawn_49 : decode cX7_drawn 49 = .ok (.iushr, 1) := by decide +kernel
theorem dX7_drawn_50 : decode cX7_drawn 50 = .ok (.bipush 10, 2) := by decide +kernel
theorem dX7_drawn_52 : decode cX7_drawn 52 = .ok (.irem, 1) := by decide +kernel
theorem dX7_drawn_53 : decode cX7_drawn 53 = .ok (.aload_n 0, 1) := by decide +kernel
theorem dX7_drawn_54 : decode cX7_drawn 54 = .ok (.getfield 35, 3) := by decide +kernel
theorem dX7_drawn_57 : decode cX7_drawn 57 = .ok (.bipush 30, 2) := by decide +kernel
theorem dX7_drawn_59 : decode cX7_drawn 59 = .ok (.iaload, 1) := by decide +kernel
theorem dX7_drawn_60 : decode cX7_drawn 60 = .ok (.if_icmp .ge 9, 3) := by decide +kernel
theorem dX7_drawn_63 : decode cX7_drawn 63 = .ok (.iconst 1, 1) := by decide +kernel
theorem dX7_drawn_64 : decode cX7_drawn 64 = .ok (.iload_n 3, 1) := by decide +kernel
theorem dX7_drawn_65 : decode cX7_drawn 65 = .ok (.ishl, 1) := by decide +kernel
theorem dX7_drawn_66 : decode cX7_drawn 66 = .ok (.goto 4, 3) := by decide +kernel
theorem dX7_drawn_69 : decode cX7_drawn 69 = .ok (.iconst 0, 1) := by decide +kernel
theorem dX7_drawn_70 : decode cX7_drawn 70 = .ok (.ixor, 1) := by decide +kernel
theorem dX7_drawn_71 : decode cX7_drawn 71 = .ok (.istore_n 2, 1) := by decide +kernel
theorem dX7_drawn_72 : decode cX7_drawn 72 = .ok (.iinc 3 1, 3) := by decide +kernel
theorem dX7_drawn_75 : decode cX7_drawn 75 = .ok (.goto (-62), 3) := by decide +kernel
theorem dX7_drawn_78 : decode cX7_drawn 78 = .ok (.iload_n 2, 1) := by decide +kernel
theorem dX7_drawn_79 : decode cX7_drawn 79 = .ok (.ireturn, 1) := by decide +kernel
theorem dX7_lot_0 : decode cX7_lot 0 = .ok (.aload_n 0, 1) := by decide +kernel
theorem dX7_lot_1 : decode cX7_lot 1 = .ok (.getfield 35, 3) := by decide +kernel
theorem dX7_lot_4 : decode cX7_lot 4 = .ok (.bipush 31, 2) := by decide +kernel
theorem dX7_lot_6 : decode cX7_lot 6 = .ok (.iaload, 1) := by decide +kernel
theorem dX7_lot_7 : decode cX7_lot 7 = .ok (.istore_n 2, 1) := by decide +kernel
theorem dX7_lot_8 : decode cX7_lot 8 = .ok (.aload_n 0, 1) := by decide +kernel
theorem dX7_lot_9 : decode cX7_lot 9 = .ok (.getfield 35, 3) := by decide +kernel
theorem dX7_lot_12 : decode cX7_lot 12 = .ok (.bipush 31, 2) := by decide +kernel
theorem dX7_lot_14 : decode cX7_lot 14 = .ok (.iload_n 1, 1) := by decide +kernel
theorem dX7_lot_15 : decode cX7_lot 15 = .ok (.iastore, 1) := by decide +kernel
theorem dX7_lot_16 : decode cX7_lot 16 = .ok (.iload_n 2, 1) := by decide +kernel
theorem dX7_lot_17 : decode cX7_lot 17 = .ok (.ireturn, 1) := by decide +kernel
theorem dX7_mark_0 : decode cX7_mark 0 = .ok (.iload_n 1, 1) := by decide +kernel
theorem dX7_mark_1 : decode cX7_mark 1 = .ok (.iconst 0, 1) := by decide +kernel
theorem dX7_mark_2 : decode cX7_mark 2 = .ok (.iconst 5, 1) := by decide +kernel
theorem dX7_mark_3 : decode cX7_mark 3 = .ok (.invokestatic 61, 3) := by decide +kernel
theorem dX7_mark_6 : decode cX7_mark 6 = .ok (.ifCond .eq 11, 3) := by decide +kernel
theorem dX7_mark_9 : decode cX7_mark 9 = .ok (.aload_n 0, 1) := by decide +kernel
theorem dX7_mark_10 : decode cX7_mark 10 = .ok (.iload_n 2, 1) := by decide +kernel
theorem dX7_mark_11 : decode cX7_mark 11 = .ok (.invokevirtual 118, 3) := by decide +kernel
theorem dX7_mark_14 : decode cX7_mark 14 = .ok (.ifCond .ne 6, 3) := by decide +kernel
theorem dX7_mark_17 : decode cX7_mark 17 = .ok (.ldc 176, 2) := by decide +kernel
theorem dX7_mark_19 : decode cX7_mark 19 = .ok (.ireturn, 1) := by decide +kernel
theorem dX7_mark_20 : decode cX7_mark 20 = .ok (.aload_n 0, 1) := by decide +kernel
theorem dX7_mark_21 : decode cX7_mark 21 = .ok (.iload_n 2, 1) := by decide +kernel
theorem dX7_mark_22 : decode cX7_mark 22 = .ok (.invokevirtual 121, 3) := by decide +kernel
theorem dX7_mark_25 : decode cX7_mark 25 = .ok (.istore_n 3, 1) := by decide +kernel
theorem dX7_mark_26 : decode cX7_mark 26 = .ok (.iload_n 1, 1) := by decide +kernel
theorem dX7_mark_27 : decode cX7_mark 27 = .ok (.tableswitch 128 0 4 #[33, 45, 61, 82, 100], 33) := by decide +kernel
theorem dX7_mark_60 : decode cX7_mark 60 = .ok (.aload_n 0, 1) := by decide +kernel
theorem dX7_mark_61 : decode cX7_mark 61 = .ok (.dup, 1) := by decide +kernel
theorem dX7_mark_62 : decode cX7_mark 62 = .ok (.getfield 177, 3) := by decide +kernel
theorem dX7_mark_65 : decode cX7_mark 65 = .ok (.lconst 1, 1) := by decide +kernel
theorem dX7_mark_66 : decode cX7_mark 66 = .ok (.ladd, 1) := by decide +kernel
theorem dX7_mark_67 : decode cX7_mark 67 = .ok (.putfield 177, 3) := by decide +kernel
theorem dX7_mark_70 : decode cX7_mark 70 = .ok (.iload_n 3, 1) := by decide +kernel
theorem dX7_mark_71 : decode cX7_mark 71 = .ok (.ireturn, 1) := by decide +kernel
theorem dX7_mark_72 : decode cX7_mark 72 = .ok (.aload_n 0, 1) := by decide +kernel
theorem dX7_mark_73 : decode cX7_mark 73 = .ok (.dup, 1) := by decide +kernel
theorem dX7_mark_74 : decode cX7_mark 74 = .ok (.getfield 177, 3) := by decide +kernel
theorem dX7_mark_77 : decode cX7_mark 77 = .ok (.ldc2_w 181, 3) := by decide +kernel
theorem dX7_mark_80 : decode cX7_mark 80 = .ok (.ladd, 1) := by decide +kernel
theorem dX7_mark_81 : decode cX7_mark 81 = .ok (.putfield 177, 3) := by decide +kernel
theorem dX7_mark_84 : decode cX7_mark 84 = .ok (.iconst 2, 1) := by decide +kernel
theorem dX7_mark_85 : decode cX7_mark 85 = .ok (.iload_n 3, 1) := by decide +kernel
theorem dX7_mark_86 : decode cX7_mark 86 = .ok (.imul, 1) := by decide +kernel
theorem dX7_mark_87 : decode cX7_mark 87 = .ok (.ireturn, 1) := by decide +kernel
theorem dX7_mark_88 : decode cX7_mark 88 = .ok (.aload_n 0, 1) := by decide +kernel
theorem dX7_mark_89 : decode cX7_mark 89 = .ok (.dup, 1) := by decide +kernel
theorem dX7_mark_90 : decode cX7_mark 90 = .ok (.getfield 177, 3) := by decide +kernel
theorem dX7_mark_93 : decode cX7_mark 93 = .ok (.ldc2_w 183, 3) := by decide +kernel
theorem dX7_mark_96 : decode cX7_mark 96 = .ok (.ladd, 1) := by decide +kernel
theorem dX7_mark_97 : decode cX7_mark 97 = .ok (.putfield 177, 3) := by decide +kernel
theorem dX7_mark_100 : decode cX7_mark 100 = .ok (.iload_n 3, 1) := by decide +kernel
theorem dX7_mark_101 : decode cX7_mark 101 = .ok (.aload_n 0, 1) := by decide +kernel
theorem dX7_mark_102 : decode cX7_mark 102 = .ok (.getfield 26, 3) := by decide +kernel
theorem dX7_mark_105 : decode cX7_mark 105 = .ok (.iload_n 2, 1) := by decide +kernel
theorem dX7_mark_106 : decode cX7_mark 106 = .ok (.iaload, 1) := by decide +kernel
theorem dX7_mark_107 : decode cX7_mark 107 = .ok (.iadd, 1) := by decide +kernel
theorem dX7_mark_108 : decode cX7_mark 108 = .ok (.ireturn, 1) := by decide +kernel
theorem dX7_mark_109 : decode cX7_mark 109 = .ok (.aload_n 0, 1) := by decide +kernel
theorem dX7_mark_110 : decode cX7_mark 110 = .ok (.dup, 1) := by decide +kernel
theorem dX7_mark_111 : decode cX7_mark 111 = .ok (.getfield 177, 3) := by decide +kernel
theorem dX7_mark_114 : decode cX7_mark 114 = .ok (.ldc2_w 185, 3) := by decide +kernel
theorem dX7_mark_117 : decode cX7_mark 117 = .ok (.ladd, 1) := by decide +kernel
theorem dX7_mark_118 : decode cX7_mark 118 = .ok (.putfield 177, 3) := by decide +kernel
theorem dX7_mark_121 : decode cX7_mark 121 = .ok (.iconst 2, 1) := by decide +kernel
theorem dX7_mark_122 : decode cX7_mark 122 = .ok (.iload_n 3, 1) := by decide +kernel
theorem dX7_mark_123 : decode cX7_mark 123 = .ok (.imul, 1) := by decide +kernel
theorem dX7_mark_124 : decode cX7_mark 124 = .ok (.iload_n 2, 1) := by decide +kernel
theorem dX7_mark_125 : decode cX7_mark 125 = .ok (.iadd, 1) := by decide +kernel
theorem dX7_mark_126 : decode cX7_mark 126 = .ok (.ireturn, 1) := by decide +kernel
theorem dX7_mark_127 : decode cX7_mark 127 = .ok (.aload_n 0, 1) := by decide +kernel
theorem dX7_mark_128 : decode cX7_mark 128 = .ok (.dup, 1) := by decide +kernel
theorem dX7_mark_129 : decode cX7_mark 129 = .ok (.getfield 177, 3) := by decide +kernel
theorem dX7_mark_132 : decode cX7_mark 132 = .ok (.ldc2_w 187, 3) := by decide +kernel
theorem dX7_mark_135 : decode cX7_mark 135 = .ok (.ladd, 1) := by decide +kernel
theorem dX7_mark_136 : decode cX7_mark 136 = .ok (.putfield 177, 3) := by decide +kernel
theorem dX7_mark_139 : decode cX7_mark 139 = .ok (.iload_n 3, 1) := by decide +kernel
theorem dX7_mark_140 : decode cX7_mark 140 = .ok (.aload_n 0, 1) := by decide +kernel
theorem dX7_mark_141 : decode cX7_mark 141 = .ok (.getfield 26, 3) := by decide +kernel
theorem dX7_mark_144 : decode cX7_mark 144 = .ok (.iload_n 2, 1) := by decide +kernel
theorem dX7_mark_145 : decode cX7_mark 145 = .ok (.iaload, 1) := by decide +kernel
theorem dX7_mark_146 : decode cX7_mark 146 = .ok (.iadd, 1) := by decide +kernel
theorem dX7_mark_147 : decode cX7_mark 147 = .ok (.aload_n 0, 1) := by decide +kernel
theorem dX7_mark_148 : decode cX7_mark 148 = .ok (.getfield 29, 3) := by decide +kernel
theorem dX7_mark_151 : decode cX7_mark 151 = .ok (.iload_n 2, 1) := by decide +kernel
theorem dX7_mark_152 : decode cX7_mark 152 = .ok (.iaload, 1) := by decide +kernel
theorem dX7_mark_153 : decode cX7_mark 153 = .ok (.isub, 1) := by decide +kernel
theorem dX7_mark_154 : decode cX7_mark 154 = .ok (.ireturn, 1) := by decide +kernel
theorem dX7_mark_155 : decode cX7_mark 155 = .ok (.aload_n 0, 1) := by decide +kernel
theorem dX7_mark_156 : decode cX7_mark 156 = .ok (.dup, 1) := by decide +kernel
theorem dX7_mark_157 : decode cX7_mark 157 = .ok (.getfield 177, 3) := by decide +kernel
theorem dX7_mark_160 : decode cX7_mark 160 = .ok (.ldc2_w 189, 3) := by decide +kernel
theorem dX7_mark_163 : decode cX7_mark 163 = .ok (.ladd, 1) := by decide +kernel
theorem dX7_mark_164 : decode cX7_mark 164 = .ok (.putfield 177, 3) := by decide +kernel
theorem dX7_mark_167 : decode cX7_mark 167 = .ok (.iload_n 3, 1) := by decide +kernel
theorem dX7_mark_168 : decode cX7_mark 168 = .ok (.aload_n 0, 1) := by decide +kernel
theorem dX7_mark_169 : decode cX7_mark 169 = .ok (.getfield 35, 3) := by decide +kernel
theorem dX7_mark_172 : decode cX7_mark 172 = .ok (.bipush 32, 2) := by decide +kernel
theorem dX7_mark_174 : decode cX7_mark 174 = .ok (.iaload, 1) := by decide +kernel
theorem dX7_mark_175 : decode cX7_mark 175 = .ok (.iadd, 1) := by decide +kernel
theorem dX7_mark_176 : decode cX7_mark 176 = .ok (.ireturn, 1) := by decide +kernel
theorem dX7_copy_0 : decode cX7_copy 0 = .ok (.iconst 0, 1) := by decide +kernel
theorem dX7_copy_1 : decode cX7_copy 1 = .ok (.istore_n 3, 1) := by decide +kernel
theorem dX7_copy_2 : decode cX7_copy 2 = .ok (.iload_n 3, 1) := by decide +kernel
theorem dX7_copy_3 : decode cX7_copy 3 = .ok (.bipush 73, 2) := by decide +kernel
theorem dX7_copy_5 : decode cX7_copy 5 = .ok (.if_icmp .ge 25, 3) := by decide +kernel
theorem dX7_copy_8 : decode cX7_copy 8 = .ok (.aload_n 0, 1) := by decide +kernel
theorem dX7_copy_9 : decode cX7_copy 9 = .ok (.getfield 35, 3) := by decide +kernel
theorem dX7_copy_12 : decode cX7_copy 12 = .ok (.iload_n 2, 1) := by decide +kernel
theorem dX7_copy_13 : decode cX7_copy 13 = .ok (.iload_n 3, 1) := by decide +kernel
theorem dX7_copy_14 : decode cX7_copy 14 = .ok (.iadd, 1) := by decide +kernel
theorem dX7_copy_15 : decode cX7_copy 15 = .ok (.aload_n 0, 1) := by decide +kernel
theorem dX7_copy_16 : decode cX7_copy 16 = .ok (.getfield 35, 3) := by decide +kernel
theorem dX7_copy_19 : decode cX7_copy 19 = .ok (.iload_n 1, 1) := by decide +kernel
theorem dX7_copy_20 : decode cX7_copy 20 = .ok (.iload_n 3, 1) := by decide +kernel
theorem dX7_copy_21 : decode cX7_copy 21 = .ok (.iadd, 1) := by decide +kernel
theorem dX7_copy_22 : decode cX7_copy 22 = .ok (.iaload, 1) := by decide +kernel
theorem dX7_copy_23 : decode cX7_copy 23 = .ok (.iastore, 1) := by decide +kernel
theorem dX7_copy_24 : decode cX7_copy 24 = .ok (.iinc 3 1, 3) := by decide +kernel
theorem dX7_copy_27 : decode cX7_copy 27 = .ok (.goto (-25), 3) := by decide +kernel
theorem dX7_copy_30 : decode cX7_copy 30 = .ok (.return_, 1) := by decide +kernel
theorem dX7_keep_0 : decode cX7_keep 0 = .ok (.iload_n 1, 1) := by decide +kernel
theorem dX7_keep_1 : decode cX7_keep 1 = .ok (.iconst 0, 1) := by decide +kernel
theorem dX7_keep_2 : decode cX7_keep 2 = .ok (.iconst 1, 1) := by decide +kernel
theorem dX7_keep_3 : decode cX7_keep 3 = .ok (.invokestatic 61, 3) := by decide +kernel
theorem dX7_keep_6 : decode cX7_keep 6 = .ok (.ifCond .ne 5, 3) := by decide +kernel
theorem dX7_keep_9 : decode cX7_keep 9 = .ok (.iconst (-1), 1) := by decide +kernel
theorem dX7_keep_10 : decode cX7_keep 10 = .ok (.ireturn, 1) := by decide +kernel
theorem dX7_keep_11 : decode cX7_keep 11 = .ok (.aload_n 0, 1) := by decide +kernel
theorem dX7_keep_12 : decode cX7_keep 12 = .ok (.iconst 0, 1) := by decide +kernel
theorem dX7_keep_13 : decode cX7_keep 13 = .ok (.bipush 73, 2) := by decide +kernel
theorem dX7_keep_15 : decode cX7_keep 15 = .ok (.iconst 1, 1) := by decide +kernel
theorem dX7_keep_16 : decode cX7_keep 16 = .ok (.iload_n 1, 1) := by decide +kernel
theorem dX7_keep_17 : decode cX7_keep 17 = .ok (.iadd, 1) := by decide +kernel
theorem dX7_keep_18 : decode cX7_keep 18 = .ok (.imul, 1) := by decide +kernel
theorem dX7_keep_19 : decode cX7_keep 19 = .ok (.invokevirtual 191, 3) := by decide +kernel
theorem dX7_keep_22 : decode cX7_keep 22 = .ok (.aload_n 0, 1) := by decide +kernel
theorem dX7_keep_23 : decode cX7_keep 23 = .ok (.getfield 38, 3) := by decide +kernel
theorem dX7_keep_26 : decode cX7_keep 26 = .ok (.iload_n 1, 1) := by decide +kernel
theorem dX7_keep_27 : decode cX7_keep 27 = .ok (.iconst 1, 1) := by decide +kernel
theorem dX7_keep_28 : decode cX7_keep 28 = .ok (.bastore, 1) := by decide +kernel
theorem dX7_keep_29 : decode cX7_keep 29 = .ok (.aload_n 0, 1) := by decide +kernel
theorem dX7_keep_30 : decode cX7_keep 30 = .ok (.getfield 35, 3) := by decide +kernel
theorem dX7_keep_33 : decode cX7_keep 33 = .ok (.bipush 32, 2) := by decide +kernel
theorem dX7_keep_35 : decode cX7_keep 35 = .ok (.iaload, 1) := by decide +kernel
theorem dX7_keep_36 : decode cX7_keep 36 = .ok (.ireturn, 1) := by decide +kernel
theorem dX7_back_0 : decode cX7_back 0 = .ok (.iload_n 1, 1) := by decide +kernel
theorem dX7_back_1 : decode cX7_back 1 = .ok (.iconst 0, 1) := by decide +kernel
theorem dX7_back_2 : decode cX7_back 2 = .ok (.iconst 1, 1) := by decide +kernel
theorem dX7_back_3 : decode cX7_back 3 = .ok (.invokestatic 61, 3) := by decide +kernel
theorem dX7_back_6 : decode cX7_back 6 = .ok (.ifCond .ne 5, 3) := by decide +kernel
theorem dX7_back_9 : decode cX7_back 9 = .ok (.iconst (-1), 1) := by decide +kernel
theorem dX7_back_10 : decode cX7_back 10 = .ok (.ireturn, 1) := by decide +kernel
theorem dX7_back_11 : decode cX7_back 11 = .ok (.aload_n 0, 1) := by decide +kernel
theorem dX7_back_12 : decode cX7_back 12 = .ok (.getfield 38, 3) := by decide +kernel
theorem dX7_back_15 : decode cX7_back 15 = .ok (.iload_n 1, 1) := by decide +kernel
theorem dX7_back_16 : decode cX7_back 16 = .ok (.baload, 1) := by decide +kernel
theorem dX7_back_17 : decode cX7_back 17 = .ok (.ifCond .ne 6, 3) := by decide +kernel
theorem dX7_back_20 : decode cX7_back 20 = .ok (.bipush (-2), 2) := by decide +kernel
theorem dX7_back_22 : decode cX7_back 22 = .ok (.ireturn, 1) := by decide +kernel
theorem dX7_back_23 : decode cX7_back 23 = .ok (.aload_n 0, 1) := by decide +kernel
theorem dX7_back_24 : decode cX7_back 24 = .ok (.bipush 73, 2) := by decide +kernel
theorem dX7_back_26 : decode cX7_back 26 = .ok (.iconst 1, 1) := by decide +kernel
theorem dX7_back_27 : decode cX7_back 27 = .ok (.iload_n 1, 1) := by decide +kernel
theorem dX7_back_28 : decode cX7_back 28 = .ok (.iadd, 1) := by decide +kernel
theorem dX7_back_29 : decode cX7_back 29 = .ok (.imul, 1) := by decide +kernel
theorem dX7_back_30 : decode cX7_back 30 = .ok (.iconst 0, 1) := by decide +kernel
theorem dX7_back_31 : decode cX7_back 31 = .ok (.invokevirtual 191, 3) := by decide +kernel
theorem dX7_back_34 : decode cX7_back 34 = .ok (.aload_n 0, 1) := by decide +kernel
theorem dX7_back_35 : decode cX7_back 35 = .ok (.getfield 35, 3) := by decide +kernel
theorem dX7_back_38 : decode cX7_back 38 = .ok (.bipush 32, 2) := by decide +kernel
theorem dX7_back_40 : decode cX7_back 40 = .ok (.iaload, 1) := by decide +kernel
theorem dX7_back_41 : decode cX7_back 41 = .ok (.ireturn, 1) := by decide +kernel
theorem dX7_count_0 : decode cX7_count 0 = .ok (.iload_n 1, 1) := by decide +kernel
theorem dX7_count_1 : decode cX7_count 1 = .ok (.ifCond .ne 12, 3) := by decide +kernel
theorem dX7_count_4 : decode cX7_count 4 = .ok (.aload_n 0, 1) := by decide +kernel
theorem dX7_count_5 : decode cX7_count 5 = .ok (.getfield 13, 3) := by decide +kernel
theorem dX7_count_8 : decode cX7_count 8 = .ok (.iconst 0, 1) := by decide +kernel
theorem dX7_count_9 : decode cX7_count 9 = .ok (.iaload, 1) := by decide +kernel
theorem dX7_count_10 : decode cX7_count 10 = .ok (.goto 60, 3) := by decide +kernel
theorem dX7_count_13 : decode cX7_count 13 = .ok (.iload_n 1, 1) := by decide +kernel
theorem dX7_count_14 : decode cX7_count 14 = .ok (.iconst 1, 1) := by decide +kernel
theorem dX7_count_15 : decode cX7_count 15 = .ok (.if_icmp .ne 12, 3) := by decide +kernel
theorem dX7_count_18 : decode cX7_count 18 = .ok (.aload_n 0, 1) := by decide +kernel
theorem dX7_count_19 : decode cX7_count 19 = .ok (.getfield 20, 3) := by decide +kernel
theorem dX7_count_22 : decode cX7_count 22 = .ok (.iconst 0, 1) := by decide +kernel
theorem dX7_count_23 : decode cX7_count 23 = .ok (.iaload, 1) := by decide +kernel
theorem dX7_count_24 : decode cX7_count 24 = .ok (.goto 46, 3) := by decide +kernel
theorem dX7_count_27 : decode cX7_count 27 = .ok (.iload_n 1, 1) := by decide +kernel
theorem dX7_count_28 : decode cX7_count 28 = .ok (.iconst 2, 1) := by decide +kernel
theorem dX7_count_29 : decode cX7_count 29 = .ok (.if_icmp .ne 13, 3) := by decide +kernel
theorem dX7_count_32 : decode cX7_count 32 = .ok (.aload_n 0, 1) := by decide +kernel
theorem dX7_count_33 : decode cX7_count 33 = .ok (.getfield 35, 3) := by decide +kernel
theorem dX7_count_36 : decode cX7_count 36 = .ok (.bipush 32, 2) := by decide +kernel
theorem dX7_count_38 : decode cX7_count 38 = .ok (.iaload, 1) := by decide +kernel
theorem dX7_count_39 : decode cX7_count 39 = .ok (.goto 31, 3) := by decide +kernel
theorem dX7_count_42 : decode cX7_count 42 = .ok (.iload_n 1, 1) := by decide +kernel
theorem dX7_count_43 : decode cX7_count 43 = .ok (.iconst 3, 1) := by decide +kernel
theorem dX7_count_44 : decode cX7_count 44 = .ok (.if_icmp .ne 13, 3) := by decide +kernel
theorem dX7_count_47 : decode cX7_count 47 = .ok (.aload_n 0, 1) := by decide +kernel
theorem dX7_count_48 : decode cX7_count 48 = .ok (.getfield 35, 3) := by decide +kernel
theorem dX7_count_51 : decode cX7_count 51 = .ok (.bipush 30, 2) := by decide +kernel
theorem dX7_count_53 : decode cX7_count 53 = .ok (.iaload, 1) := by decide +kernel
theorem dX7_count_54 : decode cX7_count 54 = .ok (.goto 16, 3) := by decide +kernel
theorem dX7_count_57 : decode cX7_count 57 = .ok (.iload_n 1, 1) := by decide +kernel
theorem dX7_count_58 : decode cX7_count 58 = .ok (.iconst 4, 1) := by decide +kernel
theorem dX7_count_59 : decode cX7_count 59 = .ok (.if_icmp .ne 10, 3) := by decide +kernel
theorem dX7_count_62 : decode cX7_count 62 = .ok (.aload_n 0, 1) := by decide +kernel
theorem dX7_count_63 : decode cX7_count 63 = .ok (.getfield 65, 3) := by decide +kernel
theorem dX7_count_66 : decode cX7_count 66 = .ok (.goto 4, 3) := by decide +kernel
theorem dX7_count_69 : decode cX7_count 69 = .ok (.iconst (-1), 1) := by decide +kernel
theorem dX7_count_70 : decode cX7_count 70 = .ok (.ireturn, 1) := by decide +kernel
theorem dX7_trace_0 : decode cX7_trace 0 = .ok (.aload_n 0, 1) := by decide +kernel
theorem dX7_trace_1 : decode cX7_trace 1 = .ok (.getfield 177, 3) := by decide +kernel
theorem dX7_trace_4 : decode cX7_trace 4 = .ok (.lreturn, 1) := by decide +kernel
