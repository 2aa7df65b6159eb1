theorem dX7_init_0 : decode cX7_init 0 = .ok (.aload_n 0, 1) := by decide +kernel
theorem dX7_init_1 : decode cX7_init 1 = .ok (.invokespecial 1, 3) := by decide +kernel
theorem dX7_init_4 : decode cX7_init 4 = .ok (.aload_n 0, 1) := by decide +kernel
theorem dX7_init_5 : decode cX7_init 5 = .ok (.sipush 300, 3) := by decide +kernel
theorem dX7_init_8 : decode cX7_init 8 = .ok (.newarray .byte, 2) := by decide +kernel
theorem dX7_init_10 : decode cX7_init 10 = .ok (.putfield 7, 3) := by decide +kernel
theorem dX7_init_13 : decode cX7_init 13 = .ok (.aload_n 0, 1) := by decide +kernel
theorem dX7_init_14 : decode cX7_init 14 = .ok (.iconst 2, 1) := by decide +kernel
theorem dX7_init_15 : decode cX7_init 15 = .ok (.newarray .int, 2) := by decide +kernel
theorem dX7_init_17 : decode cX7_init 17 = .ok (.putfield 13, 3) := by decide +kernel
theorem dX7_init_20 : decode cX7_init 20 = .ok (.aload_n 0, 1) := by decide +kernel
theorem dX7_init_21 : decode cX7_init 21 = .ok (.bipush 60, 2) := by decide +kernel
theorem dX7_init_23 : decode cX7_init 23 = .ok (.newarray .int, 2) := by decide +kernel
theorem dX7_init_25 : decode cX7_init 25 = .ok (.putfield 17, 3) := by decide +kernel
theorem dX7_init_28 : decode cX7_init 28 = .ok (.aload_n 0, 1) := by decide +kernel
theorem dX7_init_29 : decode cX7_init 29 = .ok (.iconst 2, 1) := by decide +kernel
theorem dX7_init_30 : decode cX7_init 30 = .ok (.newarray .int, 2) := by decide +kernel
theorem dX7_init_32 : decode cX7_init 32 = .ok (.putfield 20, 3) := by decide +kernel
theorem dX7_init_35 : decode cX7_init 35 = .ok (.aload_n 0, 1) := by decide +kernel
theorem dX7_init_36 : decode cX7_init 36 = .ok (.bipush 80, 2) := by decide +kernel
theorem dX7_init_38 : decode cX7_init 38 = .ok (.newarray .int, 2) := by decide +kernel
theorem dX7_init_40 : decode cX7_init 40 = .ok (.putfield 23, 3) := by decide +kernel
theorem dX7_init_43 : decode cX7_init 43 = .ok (.aload_n 0, 1) := by decide +kernel
theorem dX7_init_44 : decode cX7_init 44 = .ok (.bipush 16, 2) := by decide +kernel
theorem dX7_init_46 : decode cX7_init 46 = .ok (.newarray .int, 2) := by decide +kernel
theorem dX7_init_48 : decode cX7_init 48 = .ok (.putfield 26, 3) := by decide +kernel
theorem dX7_init_51 : decode cX7_init 51 = .ok (.aload_n 0, 1) := by decide +kernel
theorem dX7_init_52 : decode cX7_init 52 = .ok (.bipush 16, 2) := by decide +kernel
theorem dX7_init_54 : decode cX7_init 54 = .ok (.newarray .int, 2) := by decide +kernel
theorem dX7_init_56 : decode cX7_init 56 = .ok (.putfield 29, 3) := by decide +kernel
theorem dX7_init_59 : decode cX7_init 59 = .ok (.aload_n 0, 1) := by decide +kernel
theorem dX7_init_60 : decode cX7_init 60 = .ok (.iconst 2, 1) := by decide +kernel
theorem dX7_init_61 : decode cX7_init 61 = .ok (.newarray .int, 2) := by decide +kernel
theorem dX7_init_63 : decode cX7_init 63 = .ok (.putfield 32, 3) := by decide +kernel
theorem dX7_init_66 : decode cX7_init 66 = .ok (.aload_n 0, 1) := by decide +kernel
theorem dX7_init_67 : decode cX7_init 67 = .ok (.sipush 219, 3) := by decide +kernel
theorem dX7_init_70 : decode cX7_init 70 = .ok (.newarray .int, 2) := by decide +kernel
theorem dX7_init_72 : decode cX7_init 72 = .ok (.putfield 35, 3) := by decide +kernel
theorem dX7_init_75 : decode cX7_init 75 = .ok (.aload_n 0, 1) := by decide +kernel
theorem dX7_init_76 : decode cX7_init 76 = .ok (.iconst 2, 1) := by decide +kernel
theorem dX7_init_77 : decode cX7_init 77 = .ok (.newarray .boolean, 2) := by decide +kernel
theorem dX7_init_79 : decode cX7_init 79 = .ok (.putfield 38, 3) := by decide +kernel
theorem dX7_init_82 : decode cX7_init 82 = .ok (.aload_n 0, 1) := by decide +kernel
theorem dX7_init_83 : decode cX7_init 83 = .ok (.iconst 3, 1) := by decide +kernel
theorem dX7_init_84 : decode cX7_init 84 = .ok (.newarray .int, 2) := by decide +kernel
theorem dX7_init_86 : decode cX7_init 86 = .ok (.putfield 42, 3) := by decide +kernel
theorem dX7_init_89 : decode cX7_init 89 = .ok (.aload_n 0, 1) := by decide +kernel
theorem dX7_init_90 : decode cX7_init 90 = .ok (.iconst 3, 1) := by decide +kernel
theorem dX7_init_91 : decode cX7_init 91 = .ok (.newarray .int, 2) := by decide +kernel
theorem dX7_init_93 : decode cX7_init 93 = .ok (.putfield 45, 3) := by decide +kernel
theorem dX7_init_96 : decode cX7_init 96 = .ok (.aload_n 0, 1) := by decide +kernel
theorem dX7_init_97 : decode cX7_init 97 = .ok (.iconst 3, 1) := by decide +kernel
theorem dX7_init_98 : decode cX7_init 98 = .ok (.newarray .int, 2) := by decide +kernel
theorem dX7_init_100 : decode cX7_init 100 = .ok (.putfield 48, 3) := by decide +kernel
theorem dX7_init_103 : decode cX7_init 103 = .ok (.aload_n 0, 1) := by decide +kernel
theorem dX7_init_104 : decode cX7_init 104 = .ok (.bipush 8, 2) := by decide +kernel
theorem dX7_init_106 : decode cX7_init 106 = .ok (.newarray .long, 2) := by decide +kernel
theorem dX7_init_108 : decode cX7_init 108 = .ok (.putfield 51, 3) := by decide +kernel
theorem dX7_init_111 : decode cX7_init 111 = .ok (.aload_n 0, 1) := by decide +kernel
theorem dX7_init_112 : decode cX7_init 112 = .ok (.bipush 8, 2) := by decide +kernel
theorem dX7_init_114 : decode cX7_init 114 = .ok (.newarray .long, 2) := by decide +kernel
theorem dX7_init_116 : decode cX7_init 116 = .ok (.putfield 55, 3) := by decide +kernel
theorem dX7_init_119 : decode cX7_init 119 = .ok (.aload_n 0, 1) := by decide +kernel
theorem dX7_init_120 : decode cX7_init 120 = .ok (.iconst 5, 1) := by decide +kernel
theorem dX7_init_121 : decode cX7_init 121 = .ok (.newarray .int, 2) := by decide +kernel
theorem dX7_init_123 : decode cX7_init 123 = .ok (.putfield 58, 3) := by decide +kernel
theorem dX7_init_126 : decode cX7_init 126 = .ok (.aload_n 0, 1) := by decide +kernel
theorem dX7_init_127 : decode cX7_init 127 = .ok (.getfield 35, 3) := by decide +kernel
theorem dX7_init_130 : decode cX7_init 130 = .ok (.bipush 31, 2) := by decide +kernel
theorem dX7_init_132 : decode cX7_init 132 = .ok (.iconst 1, 1) := by decide +kernel
theorem dX7_init_133 : decode cX7_init 133 = .ok (.iastore, 1) := by decide +kernel
theorem dX7_init_134 : decode cX7_init 134 = .ok (.return_, 1) := by decide +kernel
theorem dX7_in_0 : decode cX7_in 0 = .ok (.iload_n 0, 1) := by decide +kernel
theorem dX7_in_1 : decode cX7_in 1 = .ok (.iload_n 1, 1) := by decide +kernel
theorem dX7_in_2 : decode cX7_in 2 = .ok (.if_icmp .lt 12, 3) := by decide +kernel
theorem dX7_in_5 : decode cX7_in 5 = .ok (.iload_n 0, 1) := by decide +kernel
theorem dX7_in_6 : decode cX7_in 6 = .ok (.iload_n 2, 1) := by decide +kernel
theorem dX7_in_7 : decode cX7_in 7 = .ok (.if_icmp .gt 7, 3) := by decide +kernel
theorem dX7_in_10 : decode cX7_in 10 = .ok (.iconst 1, 1) := by decide +kernel
theorem dX7_in_11 : decode cX7_in 11 = .ok (.goto 4, 3) := by decide +kernel
theorem dX7_in_14 : decode cX7_in 14 = .ok (.iconst 0, 1) := by decide +kernel
theorem dX7_in_15 : decode cX7_in 15 = .ok (.ireturn, 1) := by decide +kernel
theorem dX7_type_0 : decode cX7_type 0 = .ok (.iload_n 3, 1) := by decide +kernel
theorem dX7_type_1 : decode cX7_type 1 = .ok (.iconst 1, 1) := by decide +kernel
theorem dX7_type_2 : decode cX7_type 2 = .ok (.bipush 8, 2) := by decide +kernel
theorem dX7_type_4 : decode cX7_type 4 = .ok (.invokestatic 61, 3) := by decide +kernel
theorem dX7_type_7 : decode cX7_type 7 = .ok (.ifCond .ne 5, 3) := by decide +kernel
theorem dX7_type_10 : decode cX7_type 10 = .ok (.iconst (-1), 1) := by decide +kernel
theorem dX7_type_11 : decode cX7_type 11 = .ok (.ireturn, 1) := by decide +kernel
theorem dX7_type_12 : decode cX7_type 12 = .ok (.aload_n 0, 1) := by decide +kernel
theorem dX7_type_13 : decode cX7_type 13 = .ok (.getfield 65, 3) := by decide +kernel
theorem dX7_type_16 : decode cX7_type 16 = .ok (.iload_n 3, 1) := by decide +kernel
theorem dX7_type_17 : decode cX7_type 17 = .ok (.iadd, 1) := by decide +kernel
theorem dX7_type_18 : decode cX7_type 18 = .ok (.sipush 300, 3) := by decide +kernel
theorem dX7_type_21 : decode cX7_type 21 = .ok (.if_icmp .le 6, 3) := by decide +kernel
theorem dX7_type_24 : decode cX7_type 24 = .ok (.bipush (-3), 2) := by decide +kernel
theorem dX7_type_26 : decode cX7_type 26 = .ok (.ireturn, 1) := by decide +kernel
theorem dX7_type_27 : decode cX7_type 27 = .ok (.iload_n 3, 1) := by decide +kernel
theorem dX7_type_28 : decode cX7_type 28 = .ok (.iconst 1, 1) := by decide +kernel
theorem dX7_type_29 : decode cX7_type 29 = .ok (.isub, 1) := by decide +kernel
theorem dX7_type_30 : decode cX7_type 30 = .ok (.istore 4, 2) := by decide +kernel
theorem dX7_type_32 : decode cX7_type 32 = .ok (.iload 4, 2) := by decide +kernel
theorem dX7_type_34 : decode cX7_type 34 = .ok (.ifCond .lt 41, 3) := by decide +kernel
theorem dX7_type_37 : decode cX7_type 37 = .ok (.aload_n 0, 1) := by decide +kernel
theorem dX7_type_38 : decode cX7_type 38 = .ok (.getfield 7, 3) := by decide +kernel
theorem dX7_type_41 : decode cX7_type 41 = .ok (.aload_n 0, 1) := by decide +kernel
theorem dX7_type_42 : decode cX7_type 42 = .ok (.getfield 65, 3) := by decide +kernel
theorem dX7_type_45 : decode cX7_type 45 = .ok (.lload_n 1, 1) := by decide +kernel
theorem dX7_type_46 : decode cX7_type 46 = .ok (.bipush 8, 2) := by decide +kernel
theorem dX7_type_48 : decode cX7_type 48 = .ok (.iload 4, 2) := by decide +kernel
theorem dX7_type_50 : decode cX7_type 50 = .ok (.imul, 1) := by decide +kernel
theorem dX7_type_51 : decode cX7_type 51 = .ok (.lshr, 1) := by decide +kernel
theorem dX7_type_52 : decode cX7_type 52 = .ok (.ldc2_w 69, 3) := by decide +kernel
theorem dX7_type_55 : decode cX7_type 55 = .ok (.land, 1) := by decide +kernel
theorem dX7_type_56 : decode cX7_type 56 = .ok (.l2i, 1) := by decide +kernel
theorem dX7_type_57 : decode cX7_type 57 = .ok (.i2b, 1) := by decide +kernel
theorem dX7_type_58 : decode cX7_type 58 = .ok (.bastore, 1) := by decide +kernel
theorem dX7_type_59 : decode cX7_type 59 = .ok (.aload_n 0, 1) := by decide +kernel
theorem dX7_type_60 : decode cX7_type 60 = .ok (.dup, 1) := by decide +kernel
theorem dX7_type_61 : decode cX7_type 61 = .ok (.getfield 65, 3) := by decide +kernel
theorem dX7_type_64 : decode cX7_type 64 = .ok (.iconst 1, 1) := by decide +kernel
theorem dX7_type_65 : decode cX7_type 65 = .ok (.iadd, 1) := by decide +kernel
theorem dX7_type_66 : decode cX7_type 66 = .ok (.putfield 65, 3) := by decide +kernel
theorem dX7_type_69 : decode cX7_type 69 = .ok (.iinc 4 (-1), 3) := by decide +kernel
theorem dX7_type_72 : decode cX7_type 72 = .ok (.goto (-40), 3) := by decide +kernel
theorem dX7_type_75 : decode cX7_type 75 = .ok (.aload_n 0, 1) := by decide +kernel
theorem dX7_type_76 : decode cX7_type 76 = .ok (.getfield 65, 3) := by decide +kernel
theorem dX7_type_79 : decode cX7_type 79 = .ok (.ireturn, 1) := by decide +kernel
theorem dX7_clear_0 : decode cX7_clear 0 = .ok (.aload_n 0, 1) := by decide +kernel
theorem dX7_clear_1 : decode cX7_clear 1 = .ok (.getfield 65, 3) := by decide +kernel
theorem dX7_clear_4 : decode cX7_clear 4 = .ok (.istore_n 1, 1) := by decide +kernel
theorem dX7_clear_5 : decode cX7_clear 5 = .ok (.aload_n 0, 1) := by decide +kernel
theorem dX7_clear_6 : decode cX7_clear 6 = .ok (.iconst 0, 1) := by decide +kernel
theorem dX7_clear_7 : decode cX7_clear 7 = .ok (.putfield 65, 3) := by decide +kernel
theorem dX7_clear_10 : decode cX7_clear 10 = .ok (.iload_n 1, 1) := by decide +kernel
theorem dX7_clear_11 : decode cX7_clear 11 = .ok (.ireturn, 1) := by decide +kernel
theorem dX7_here_0 : decode cX7_here 0 = .ok (.aload_n 0, 1) := by decide +kernel
theorem dX7_here_1 : decode cX7_here 1 = .ok (.getfield 71, 3) := by decide +kernel
theorem dX7_here_4 : decode cX7_here 4 = .ok (.aload_n 0, 1) := by decide +kernel
theorem dX7_here_5 : decode cX7_here 5 = .ok (.getfield 65, 3) := by decide +kernel
theorem dX7_here_8 : decode cX7_here 8 = .ok (.if_icmp .ge 19, 3) := by decide +kernel
theorem dX7_here_11 : decode cX7_here 11 = .ok (.aload_n 0, 1) := by decide +kernel
theorem dX7_here_12 : decode cX7_here 12 = .ok (.getfield 7, 3) := by decide +kernel
theorem dX7_here_15 : decode cX7_here 15 = .ok (.aload_n 0, 1) := by decide +kernel
theorem dX7_here_16 : decode cX7_here 16 = .ok (.getfield 71, 3) := by decide +kernel
theorem dX7_here_19 : decode cX7_here 19 = .ok (.baload, 1) := by decide +kernel
theorem dX7_here_20 : decode cX7_here 20 = .ok (.sipush 255, 3) := by decide +kernel
theorem dX7_here_23 : decode cX7_here 23 = .ok (.iand, 1) := by decide +kernel
theorem dX7_here_24 : decode cX7_here 24 = .ok (.goto 4, 3) := by decide +kernel
theorem dX7_here_27 : decode cX7_here 27 = .ok (.iconst (-1), 1) := by decide +kernel
theorem dX7_here_28 : decode cX7_here 28 = .ok (.ireturn, 1) := by decide +kernel
theorem dX7_meaning_0 : decode cX7_meaning 0 = .ok (.iload_n 0, 1) := by decide +kernel
theorem dX7_meaning_1 : decode cX7_meaning 1 = .ok (.lookupswitch 41 #[(4786, 39), (85814, 37), (4562600, 35)], 35) := by decide +kernel
theorem dX7_meaning_36 : decode cX7_meaning 36 = .ok (.iconst 0, 1) := by decide +kernel
theorem dX7_meaning_37 : decode cX7_meaning 37 = .ok (.ireturn, 1) := by decide +kernel
theorem dX7_meaning_38 : decode cX7_meaning 38 = .ok (.iconst 1, 1) := by decide +kernel
theorem dX7_meaning_39 : decode cX7_meaning 39 = .ok (.ireturn, 1) := by decide +kernel
theorem dX7_meaning_40 : decode cX7_meaning 40 = .ok (.iconst 2, 1) := by decide +kernel
theorem dX7_meaning_41 : decode cX7_meaning 41 = .ok (.ireturn, 1) := by decide +kernel
theorem dX7_meaning_42 : decode cX7_meaning 42 = .ok (.bipush 6, 2) := by decide +kernel
theorem dX7_meaning_44 : decode cX7_meaning 44 = .ok (.ireturn, 1) := by decide +kernel
theorem dX7_next_0 : decode cX7_next 0 = .ok (.aload_n 0, 1) := by decide +kernel
theorem dX7_next_1 : decode cX7_next 1 = .ok (.invokevirtual 74, 3) := by decide +kernel
theorem dX7_next_4 : decode cX7_next 4 = .ok (.bipush 32, 2) := by decide +kernel
theorem dX7_next_6 : decode cX7_next 6 = .ok (.if_icmp .ne 16, 3) := by decide +kernel
theorem dX7_next_9 : decode cX7_next 9 = .ok (.aload_n 0, 1) := by decide +kernel
theorem dX7_next_10 : decode cX7_next 10 = .ok (.dup, 1) := by decide +kernel
theorem dX7_next_11 : decode cX7_next 11 = .ok (.getfield 71, 3) := by decide +kernel
theorem dX7_next_14 : decode cX7_next 14 = .ok (.iconst 1, 1) := by decide +kernel
theorem dX7_next_15 : decode cX7_next 15 = .ok (.iadd, 1) := by decide +kernel
theorem dX7_next_16 : decode cX7_next 16 = .ok (.putfield 71, 3) := by decide +kernel
theorem dX7_next_19 : decode cX7_next 19 = .ok (.goto (-19), 3) := by decide +kernel
theorem dX7_next_22 : decode cX7_next 22 = .ok (.aload_n 0, 1) := by decide +kernel
theorem dX7_next_23 : decode cX7_next 23 = .ok (.aload_n 0, 1) := by decide +kernel
theorem dX7_next_24 : decode cX7_next 24 = .ok (.getfield 71, 3) := by decide +kernel
theorem dX7_next_27 : decode cX7_next 27 = .ok (.putfield 78, 3) := by decide +kernel
theorem dX7_next_30 : decode cX7_next 30 = .ok (.aload_n 0, 1) := by decide +kernel
theorem dX7_next_31 : decode cX7_next 31 = .ok (.iconst 0, 1) := by decide +kernel
theorem dX7_next_32 : decode cX7_next 32 = .ok (.putfield 81, 3) := by decide +kernel
theorem dX7_next_35 : decode cX7_next 35 = .ok (.aload_n 0, 1) := by decide +kernel
theorem dX7_next_36 : decode cX7_next 36 = .ok (.invokevirtual 74, 3) := by decide +kernel
theorem dX7_next_39 : decode cX7_next 39 = .ok (.istore_n 1, 1) := by decide +kernel
theorem dX7_next_40 : decode cX7_next 40 = .ok (.iload_n 1, 1) := by decide +kernel
theorem dX7_next_41 : decode cX7_next 41 = .ok (.ifCond .ge 11, 3) := by decide +kernel
theorem dX7_next_44 : decode cX7_next 44 = .ok (.aload_n 0, 1) := by decide +kernel
theorem dX7_next_45 : decode cX7_next 45 = .ok (.iconst 3, 1) := by decide +kernel
theorem dX7_next_46 : decode cX7_next 46 = .ok (.putfield 84, 3) := by decide +kernel
theorem dX7_next_49 : decode cX7_next 49 = .ok (.goto 241, 3) := by decide +kernel
theorem dX7_next_52 : decode cX7_next 52 = .ok (.iload_n 1, 1) := by decide +kernel
theorem dX7_next_53 : decode cX7_next 53 = .ok (.bipush 97, 2) := by decide +kernel
theorem dX7_next_55 : decode cX7_next 55 = .ok (.bipush 122, 2) := by decide +kernel
theorem dX7_next_57 : decode cX7_next 57 = .ok (.invokestatic 61, 3) := by decide +kernel
theorem dX7_next_60 : decode cX7_next 60 = .ok (.ifCond .eq 90, 3) := by decide +kernel
theorem dX7_next_63 : decode cX7_next 63 = .ok (.iconst 0, 1) := by decide +kernel
theorem dX7_next_64 : decode cX7_next 64 = .ok (.istore_n 2, 1) := by decide +kernel
theorem dX7_next_65 : decode cX7_next 65 = .ok (.aload_n 0, 1) := by decide +kernel
theorem dX7_next_66 : decode cX7_next 66 = .ok (.invokevirtual 74, 3) := by decide +kernel
theorem dX7_next_69 : decode cX7_next 69 = .ok (.bipush 97, 2) := by decide +kernel
theorem dX7_next_71 : decode cX7_next 71 = .ok (.bipush 122, 2) := by decide +kernel
theorem dX7_next_73 : decode cX7_next 73 = .ok (.invokestatic 61, 3) := by decide +kernel
theorem dX7_next_76 : decode cX7_next 76 = .ok (.ifCond .eq 46, 3) := by decide +kernel
theorem dX7_next_79 : decode cX7_next 79 = .ok (.aload_n 0, 1) := by decide +kernel
theorem dX7_next_80 : decode cX7_next 80 = .ok (.getfield 71, 3) := by decide +kernel
theorem dX7_next_83 : decode cX7_next 83 = .ok (.aload_n 0, 1) := by decide +kernel
theorem dX7_next_84 : decode cX7_next 84 = .ok (.getfield 78, 3) := by decide +kernel
theorem dX7_next_87 : decode cX7_next 87 = .ok (.isub, 1) := by decide +kernel
theorem dX7_next_88 : decode cX7_next 88 = .ok (.iconst 5, 1) := by decide +kernel
theorem dX7_next_89 : decode cX7_next 89 = .ok (.if_icmp .ge 18, 3) := by decide +kernel
theorem dX7_next_92 : decode cX7_next 92 = .ok (.bipush 27, 2) := by decide +kernel
theorem dX7_next_94 : decode cX7_next 94 = .ok (.iload_n 2, 1) := by decide +kernel
theorem dX7_next_95 : decode cX7_next 95 = .ok (.imul, 1) := by decide +kernel
theorem dX7_next_96 : decode cX7_next 96 = .ok (.aload_n 0, 1) := by decide +kernel
theorem dX7_next_97 : decode cX7_next 97 = .ok (.invokevirtual 74, 3) := by decide +kernel
theorem dX7_next_100 : decode cX7_next 100 = .ok (.iadd, 1) := by decide +kernel
theorem dX7_next_101 : decode cX7_next 101 = .ok (.bipush 96, 2) := by decide +kernel
theorem dX7_next_103 : decode cX7_next 103 = .ok (.isub, 1) := by decide +kernel
theorem dX7_next_104 : decode cX7_next 104 = .ok (.goto 4, 3) := by decide +kernel
theorem dX7_next_107 : decode cX7_next 107 = .ok (.iconst 0, 1) := by decide +kernel
theorem dX7_next_108 : decode cX7_next 108 = .ok (.istore_n 2, 1) := by decide +kernel
theorem dX7_next_109 : decode cX7_next 109 = .ok (.aload_n 0, 1) := by decide +kernel
theorem dX7_next_110 : decode cX7_next 110 = .ok (.dup, 1) := by decide +kernel
theorem dX7_next_111 : decode cX7_next 111 = .ok (.getfield 71, 3) := by decide +kernel
theorem dX7_next_114 : decode cX7_next 114 = .ok (.iconst 1, 1) := by decide +kernel
theorem dX7_next_115 : decode cX7_next 115 = .ok (.iadd, 1) := by decide +kernel
theorem dX7_next_116 : decode cX7_next 116 = .ok (.putfield 71, 3) := by decide +kernel
theorem dX7_next_119 : decode cX7_next 119 = .ok (.goto (-54), 3) := by decide +kernel
theorem dX7_next_122 : decode cX7_next 122 = .ok (.aload_n 0, 1) := by decide +kernel
theorem dX7_next_123 : decode cX7_next 123 = .ok (.aload_n 0, 1) := by decide +kernel
theorem dX7_next_124 : decode cX7_next 124 = .ok (.getfield 71, 3) := by decide +kernel
theorem dX7_next_127 : decode cX7_next 127 = .ok (.aload_n 0, 1) := by decide +kernel
theorem dX7_next_128 : decode cX7_next 128 = .ok (.getfield 78, 3) := by decide +kernel
theorem dX7_next_131 : decode cX7_next 131 = .ok (.isub, 1) := by decide +kernel
theorem dX7_next_132 : decode cX7_next 132 = .ok (.iconst 5, 1) := by decide +kernel
theorem dX7_next_133 : decode cX7_next 133 = .ok (.if_icmp .le 7, 3) := by decide +kernel
theorem dX7_next_136 : decode cX7_next 136 = .ok (.iconst 0, 1) := by decide +kernel
theorem dX7_next_137 : decode cX7_next 137 = .ok (.goto 4, 3) := by decide +kernel
theorem dX7_next_140 : decode cX7_next 140 = .ok (.iload_n 2, 1) := by decide +kernel
theorem dX7_next_141 : decode cX7_next 141 = .ok (.invokestatic 87, 3) := by decide +kernel
theorem dX7_next_144 : decode cX7_next 144 = .ok (.putfield 84, 3) := by decide +kernel
theorem dX7_next_147 : decode cX7_next 147 = .ok (.goto 143, 3) := by decide +kernel
theorem dX7_next_150 : decode cX7_next 150 = .ok (.iload_n 1, 1) := by decide +kernel
theorem dX7_next_151 : decode cX7_next 151 = .ok (.bipush 48, 2) := by decide +kernel
theorem dX7_next_153 : decode cX7_next 153 = .ok (.bipush 57, 2) := by decide +kernel
theorem dX7_next_155 : decode cX7_next 155 = .ok (.invokestatic 61, 3) := by decide +kernel
theorem dX7_next_158 : decode cX7_next 158 = .ok (.ifCond .eq 106, 3) := by decide +kernel
theorem dX7_next_161 : decode cX7_next 161 = .ok (.aload_n 0, 1) := by decide +kernel
theorem dX7_next_162 : decode cX7_next 162 = .ok (.invokevirtual 74, 3) := by decide +kernel
theorem dX7_next_165 : decode cX7_next 165 = .ok (.bipush 48, 2) := by decide +kernel
theorem dX7_next_167 : decode cX7_next 167 = .ok (.bipush 57, 2) := by decide +kernel
theorem dX7_next_169 : decode cX7_next 169 = .ok (.invokestatic 61, 3) := by decide +kernel
theorem dX7_next_172 : decode cX7_next 172 = .ok (.ifCond .eq 51, 3) := by decide +kernel
theorem dX7_next_175 : decode cX7_next 175 = .ok (.aload_n 0, 1) := by decide +kernel
theorem dX7_next_176 : decode cX7_next 176 = .ok (.aload_n 0, 1) := by decide +kernel
theorem dX7_next_177 : decode cX7_next 177 = .ok (.getfield 81, 3) := by decide +kernel
theorem dX7_next_180 : decode cX7_next 180 = .ok (.bipush 99, 2) := by decide +kernel
theorem dX7_next_182 : decode cX7_next 182 = .ok (.if_icmp .le 10, 3) := by decide +kernel
theorem dX7_next_185 : decode cX7_next 185 = .ok (.aload_n 0, 1) := by decide +kernel
theorem dX7_next_186 : decode cX7_next 186 = .ok (.getfield 81, 3) := by decide +kernel
theorem dX7_next_189 : decode cX7_next 189 = .ok (.goto 18, 3) := by decide +kernel
theorem dX7_next_192 : decode cX7_next 192 = .ok (.bipush 10, 2) := by decide +kernel
theorem dX7_next_194 : decode cX7_next 194 = .ok (.aload_n 0, 1) := by decide +kernel
theorem dX7_next_195 : decode cX7_next 195 = .ok (.getfield 81, 3) := by decide +kernel
theorem dX7_next_198 : decode cX7_next 198 = .ok (.imul, 1) := by decide +kernel
theorem dX7_next_199 : decode cX7_next 199 = .ok (.aload_n 0, 1) := by decide +kernel
theorem dX7_next_200 : decode cX7_next 200 = .ok (.invokevirtual 74, 3) := by decide +kernel
theorem dX7_next_203 : decode cX7_next 203 = .ok (.iadd, 1) := by decide +kernel
theorem dX7_next_204 : decode cX7_next 204 = .ok (.bipush 48, 2) := by decide +kernel
theorem dX7_next_206 : decode cX7_next 206 = .ok (.isub, 1) := by decide +kernel
theorem dX7_next_207 : decode cX7_next 207 = .ok (.putfield 81, 3) := by decide +kernel
theorem dX7_next_210 : decode cX7_next 210 = .ok (.aload_n 0, 1) := by decide +kernel
theorem dX7_next_211 : decode cX7_next 211 = .ok (.dup, 1) := by decide +kernel
theorem dX7_next_212 : decode cX7_next 212 = .ok (.getfield 71, 3) := by decide +kernel
theorem dX7_next_215 : decode cX7_next 215 = .ok (.iconst 1, 1) := by decide +kernel
theorem dX7_next_216 : decode cX7_next 216 = .ok (.iadd, 1) := by decide +kernel
theorem dX7_next_217 : decode cX7_next 217 = .ok (.putfield 71, 3) := by decide +kernel
theorem dX7_next_220 : decode cX7_next 220 = .ok (.goto (-59), 3) := by decide +kernel
theorem dX7_next_223 : decode cX7_next 223 = .ok (.aload_n 0, 1) := by decide +kernel
theorem dX7_next_224 : decode cX7_next 224 = .ok (.aload_n 0, 1) := by decide +kernel
theorem dX7_next_225 : decode cX7_next 225 = .ok (.getfield 81, 3) := by decide +kernel
theorem dX7_next_228 : decode cX7_next 228 = .ok (.bipush 99, 2) := by decide +kernel
theorem dX7_next_230 : decode cX7_next 230 = .ok (.if_icmp .gt 22, 3) := by decide +kernel
theorem dX7_next_233 : decode cX7_next 233 = .ok (.iload_n 1, 1) := by decide +kernel
theorem dX7_next_234 : decode cX7_next 234 = .ok (.bipush 48, 2) := by decide +kernel
theorem dX7_next_236 : decode cX7_next 236 = .ok (.if_icmp .ne 21, 3) := by decide +kernel
theorem dX7_next_239 : decode cX7_next 239 = .ok (.aload_n 0, 1) := by decide +kernel
theorem dX7_next_240 : decode cX7_next 240 = .ok (.getfield 71, 3) := by decide +kernel
theorem dX7_next_243 : decode cX7_next 243 = .ok (.aload_n 0, 1) := by decide +kernel
theorem dX7_next_244 : decode cX7_next 244 = .ok (.getfield 78, 3) := by decide +kernel
theorem dX7_next_247 : decode cX7_next 247 = .ok (.isub, 1) := by decide +kernel
theorem dX7_next_248 : decode cX7_next 248 = .ok (.iconst 1, 1) := by decide +kernel
theorem dX7_next_249 : decode cX7_next 249 = .ok (.if_icmp .le 8, 3) := by decide +kernel
theorem dX7_next_252 : decode cX7_next 252 = .ok (.bipush 6, 2) := by decide +kernel
theorem dX7_next_254 : decode cX7_next 254 = .ok (.goto 4, 3) := by decide +kernel
theorem dX7_next_257 : decode cX7_next 257 = .ok (.iconst 4, 1) := by decide +kernel
theorem dX7_next_258 : decode cX7_next 258 = .ok (.putfield 84, 3) := by decide +kernel
theorem dX7_next_261 : decode cX7_next 261 = .ok (.goto 29, 3) := by decide +kernel
theorem dX7_next_264 : decode cX7_next 264 = .ok (.aload_n 0, 1) := by decide +kernel
theorem dX7_next_265 : decode cX7_next 265 = .ok (.dup, 1) := by decide +kernel
theorem dX7_next_266 : decode cX7_next 266 = .ok (.getfield 71, 3) := by decide +kernel
theorem dX7_next_269 : decode cX7_next 269 = .ok (.iconst 1, 1) := by decide +kernel
theorem dX7_next_270 : decode cX7_next 270 = .ok (.iadd, 1) := by decide +kernel
theorem dX7_next_271 : decode cX7_next 271 = .ok (.putfield 71, 3) := by decide +kernel
theorem dX7_next_274 : decode cX7_next 274 = .ok (.aload_n 0, 1) := by decide +kernel
theorem dX7_next_275 : decode cX7_next 275 = .ok (.iload_n 1, 1) := by decide +kernel
theorem dX7_next_276 : decode cX7_next 276 = .ok (.bipush 59, 2) := by decide +kernel
theorem dX7_next_278 : decode cX7_next 278 = .ok (.if_icmp .ne 7, 3) := by decide +kernel
theorem dX7_next_281 : decode cX7_next 281 = .ok (.iconst 5, 1) := by decide +kernel
theorem dX7_next_282 : decode cX7_next 282 = .ok (.goto 5, 3) := by decide +kernel
theorem dX7_next_285 : decode cX7_next 285 = .ok (.bipush 6, 2) := by decide +kernel
theorem dX7_next_287 : decode cX7_next 287 = .ok (.putfield 84, 3) := by decide +kernel
theorem dX7_next_290 : decode cX7_next 290 = .ok (.return_, 1) := by decide +kernel
theorem dX7_due_0 : decode cX7_due 0 = .ok (.aload_n 0, 1) := by decide +kernel
theorem dX7_due_1 : decode cX7_due 1 = .ok (.getfield 81, 3) := by decide +kernel
theorem dX7_due_4 : decode cX7_due 4 = .ok (.istore_n 2, 1) := by decide +kernel
theorem dX7_due_5 : decode cX7_due 5 = .ok (.aload_n 0, 1) := by decide +kernel
theorem dX7_due_6 : decode cX7_due 6 = .ok (.getfield 91, 3) := by decide +kernel
theorem dX7_due_9 : decode cX7_due 9 = .ok (.bipush (-9), 2) := by decide +kernel
theorem dX7_due_11 : decode cX7_due 11 = .ok (.if_icmp .ne 22, 3) := by decide +kernel
theorem dX7_due_14 : decode cX7_due 14 = .ok (.iload_n 1, 1) := by decide +kernel
theorem dX7_due_15 : decode cX7_due 15 = .ok (.ifCond .eq 10, 3) := by decide +kernel
theorem dX7_due_18 : decode cX7_due 18 = .ok (.aload_n 0, 1) := by decide +kernel
theorem dX7_due_19 : decode cX7_due 19 = .ok (.invokevirtual 94, 3) := by decide +kernel
theorem dX7_due_22 : decode cX7_due 22 = .ok (.goto 11, 3) := by decide +kernel
theorem dX7_due_25 : decode cX7_due 25 = .ok (.aload_n 0, 1) := by decide +kernel
theorem dX7_due_26 : decode cX7_due 26 = .ok (.aload_n 0, 1) := by decide +kernel
theorem dX7_due_27 : decode cX7_due 27 = .ok (.getfield 78, 3) := by decide +kernel
theorem dX7_due_30 : decode cX7_due 30 = .ok (.putfield 91, 3) := by decide +kernel
theorem dX7_due_33 : decode cX7_due 33 = .ok (.iload_n 2, 1) := by decide +kernel
theorem dX7_due_34 : decode cX7_due 34 = .ok (.ireturn, 1) := by decide +kernel
theorem dX7_number_0 : decode cX7_number 0 = .ok (.aload_n 0, 1) := by decide +kernel
theorem dX7_number_1 : decode cX7_number 1 = .ok (.aload_n 0, 1) := by decide +kernel
theorem dX7_number_2 : decode cX7_number 2 = .ok (.getfield 84, 3) := by decide +kernel
theorem dX7_number_5 : decode cX7_number 5 = .ok (.iconst 4, 1) := by decide +kernel
theorem dX7_number_6 : decode cX7_number 6 = .ok (.if_icmp .ne 19, 3) := by decide +kernel
theorem dX7_number_9 : decode cX7_number 9 = .ok (.aload_n 0, 1) := by decide +kernel
theorem dX7_number_10 : decode cX7_number 10 = .ok (.getfield 81, 3) := by decide +kernel
theorem dX7_number_13 : decode cX7_number 13 = .ok (.iconst 0, 1) := by decide +kernel
theorem dX7_number_14 : decode cX7_number 14 = .ok (.iload_n 1, 1) := by decide +kernel
theorem dX7_number_15 : decode cX7_number 15 = .ok (.invokestatic 61, 3) := by decide +kernel
theorem dX7_number_18 : decode cX7_number 18 = .ok (.ifCond .eq 7, 3) := by decide +kernel
theorem dX7_number_21 : decode cX7_number 21 = .ok (.iconst 1, 1) := by decide +kernel
theorem dX7_number_22 : decode cX7_number 22 = .ok (.goto 4, 3) := by decide +kernel
theorem dX7_number_25 : decode cX7_number 25 = .ok (.iconst 0, 1) := by decide +kernel
theorem dX7_number_26 : decode cX7_number 26 = .ok (.invokevirtual 97, 3) := by decide +kernel
theorem dX7_number_29 : decode cX7_number 29 = .ok (.ireturn, 1) := by decide +kernel
theorem dX7_readItem_0 : decode cX7_readItem 0 = .ok (.aload_n 0, 1) := by decide +kernel
theorem dX7_readItem_1 : decode cX7_readItem 1 = .ok (.getfield 84, 3) := by decide +kernel
theorem dX7_readItem_4 : decode cX7_readItem 4 = .ok (.istore_n 1, 1) := by decide +kernel
theorem dX7_readItem_5 : decode cX7_readItem 5 = .ok (.aload_n 0, 1) := by decide +kernel
theorem dX7_readItem_6 : decode cX7_readItem 6 = .ok (.iload_n 1, 1) := by decide +kernel
theorem dX7_readItem_7 : decode cX7_readItem 7 = .ok (.ifCond .ne 14, 3) := by decide +kernel
theorem dX7_readItem_10 : decode cX7_readItem 10 = .ok (.aload_n 0, 1) := by decide +kernel
theorem dX7_readItem_11 : decode cX7_readItem 11 = .ok (.getfield 13, 3) := by decide +kernel
theorem dX7_readItem_14 : decode cX7_readItem 14 = .ok (.iconst 1, 1) := by decide +kernel
theorem dX7_readItem_15 : decode cX7_readItem 15 = .ok (.iaload, 1) := by decide +kernel
theorem dX7_readItem_16 : decode cX7_readItem 16 = .ok (.bipush 6, 2) := by decide +kernel
theorem dX7_readItem_18 : decode cX7_readItem 18 = .ok (.if_icmp .lt 31, 3) := by decide +kernel
theorem dX7_readItem_21 : decode cX7_readItem 21 = .ok (.iload_n 1, 1) := by decide +kernel
theorem dX7_readItem_22 : decode cX7_readItem 22 = .ok (.iconst 1, 1) := by decide +kernel
theorem dX7_readItem_23 : decode cX7_readItem 23 = .ok (.if_icmp .ne 14, 3) := by decide +kernel
theorem dX7_readItem_26 : decode cX7_readItem 26 = .ok (.aload_n 0, 1) := by decide +kernel
theorem dX7_readItem_27 : decode cX7_readItem 27 = .ok (.getfield 20, 3) := by decide +kernel
theorem dX7_readItem_30 : decode cX7_readItem 30 = .ok (.iconst 1, 1) := by decide +kernel
theorem dX7_readItem_31 : decode cX7_readItem 31 = .ok (.iaload, 1) := by decide +kernel
theorem dX7_readItem_32 : decode cX7_readItem 32 = .ok (.bipush 8, 2) := by decide +kernel
theorem dX7_readItem_34 : decode cX7_readItem 34 = .ok (.if_icmp .lt 15, 3) := by decide +kernel
theorem dX7_readItem_37 : decode cX7_readItem 37 = .ok (.iload_n 1, 1) := by decide +kernel
theorem dX7_readItem_38 : decode cX7_readItem 38 = .ok (.iconst 2, 1) := by decide +kernel
theorem dX7_readItem_39 : decode cX7_readItem 39 = .ok (.if_icmp .ne 14, 3) := by decide +kernel
theorem dX7_readItem_42 : decode cX7_readItem 42 = .ok (.aload_n 0, 1) := by decide +kernel
theorem dX7_readItem_43 : decode cX7_readItem 43 = .ok (.getfield 101, 3) := by decide +kernel
theorem dX7_readItem_46 : decode cX7_readItem 46 = .ok (.ifCond .ne 7, 3) := by decide +kernel
theorem dX7_readItem_49 : decode cX7_readItem 49 = .ok (.iconst 1, 1) := by decide +kernel
theorem dX7_readItem_50 : decode cX7_readItem 50 = .ok (.goto 4, 3) := by decide +kernel
theorem dX7_readItem_53 : decode cX7_readItem 53 = .ok (.iconst 0, 1) := by decide +kernel
theorem dX7_readItem_54 : decode cX7_readItem 54 = .ok (.invokevirtual 97, 3) := by decide +kernel
theorem dX7_readItem_57 : decode cX7_readItem 57 = .ok (.pop, 1) := by decide +kernel
theorem dX7_readItem_58 : decode cX7_readItem 58 = .ok (.aload_n 0, 1) := by decide +kernel
theorem dX7_readItem_59 : decode cX7_readItem 59 = .ok (.getfield 91, 3) := by decide +kernel
theorem dX7_readItem_62 : decode cX7_readItem 62 = .ok (.bipush (-9), 2) := by decide +kernel
theorem dX7_readItem_64 : decode cX7_readItem 64 = .ok (.if_icmp .eq 4, 3) := by decide +kernel
theorem dX7_readItem_67 : decode cX7_readItem 67 = .ok (.return_, 1) := by decide +kernel
theorem dX7_readItem_68 : decode cX7_readItem 68 = .ok (.iload_n 1, 1) := by decide +kernel
theorem dX7_readItem_69 : decode cX7_readItem 69 = .ok (.ifCond .ne 55, 3) := by decide +kernel
theorem dX7_readItem_72 : decode cX7_readItem 72 = .ok (.bipush 6, 2) := by decide +kernel
theorem dX7_readItem_74 : decode cX7_readItem 74 = .ok (.aload_n 0, 1) := by decide +kernel
theorem dX7_readItem_75 : decode cX7_readItem 75 = .ok (.getfield 13, 3) := by decide +kernel
theorem dX7_readItem_78 : decode cX7_readItem 78 = .ok (.iconst 1, 1) := by decide +kernel
theorem dX7_readItem_79 : decode cX7_readItem 79 = .ok (.iaload, 1) := by decide +kernel
theorem dX7_readItem_80 : decode cX7_readItem 80 = .ok (.iadd, 1) := by decide +kernel
theorem dX7_readItem_81 : decode cX7_readItem 81 = .ok (.istore_n 2, 1) := by decide +kernel
theorem dX7_readItem_82 : decode cX7_readItem 82 = .ok (.iconst 0, 1) := by decide +kernel
theorem dX7_readItem_83 : decode cX7_readItem 83 = .ok (.istore_n 3, 1) := by decide +kernel
theorem dX7_readItem_84 : decode cX7_readItem 84 = .ok (.iload_n 3, 1) := by decide +kernel
theorem dX7_readItem_85 : decode cX7_readItem 85 = .ok (.iconst 5, 1) := by decide +kernel
theorem dX7_readItem_86 : decode cX7_readItem 86 = .ok (.if_icmp .ge 25, 3) := by decide +kernel
theorem dX7_readItem_89 : decode cX7_readItem 89 = .ok (.aload_n 0, 1) := by decide +kernel
theorem dX7_readItem_90 : decode cX7_readItem 90 = .ok (.getfield 17, 3) := by decide +kernel
theorem dX7_readItem_93 : decode cX7_readItem 93 = .ok (.iconst 5, 1) := by decide +kernel
theorem dX7_readItem_94 : decode cX7_readItem 94 = .ok (.iload_n 2, 1) := by decide +kernel
theorem dX7_readItem_95 : decode cX7_readItem 95 = .ok (.imul, 1) := by decide +kernel
theorem dX7_readItem_96 : decode cX7_readItem 96 = .ok (.iload_n 3, 1) := by decide +kernel
theorem dX7_readItem_97 : decode cX7_readItem 97 = .ok (.iadd, 1) := by decide +kernel
theorem dX7_readItem_98 : decode cX7_readItem 98 = .ok (.aload_n 0, 1) := by decide +kernel
theorem dX7_readItem_99 : decode cX7_readItem 99 = .ok (.bipush 9, 2) := by decide +kernel
theorem dX7_readItem_101 : decode cX7_readItem 101 = .ok (.invokevirtual 105, 3) := by decide +kernel
theorem dX7_readItem_104 : decode cX7_readItem 104 = .ok (.iastore, 1) := by decide +kernel
theorem dX7_readItem_105 : decode cX7_readItem 105 = .ok (.iinc 3 1, 3) := by decide +kernel
theorem dX7_readItem_108 : decode cX7_readItem 108 = .ok (.goto (-24), 3) := by decide +kernel
theorem dX7_readItem_111 : decode cX7_readItem 111 = .ok (.aload_n 0, 1) := by decide +kernel
theorem dX7_readItem_112 : decode cX7_readItem 112 = .ok (.getfield 13, 3) := by decide +kernel
theorem dX7_readItem_115 : decode cX7_readItem 115 = .ok (.iconst 1, 1) := by decide +kernel
theorem dX7_readItem_116 : decode cX7_readItem 116 = .ok (.dup2, 1) := by decide +kernel
theorem dX7_readItem_117 : decode cX7_readItem 117 = .ok (.iaload, 1) := by decide +kernel
theorem dX7_readItem_118 : decode cX7_readItem 118 = .ok (.iconst 1, 1) := by decide +kernel
theorem dX7_readItem_119 : decode cX7_readItem 119 = .ok (.iadd, 1) := by decide +kernel
theorem dX7_readItem_120 : decode cX7_readItem 120 = .ok (.iastore, 1) := by decide +kernel
theorem dX7_readItem_121 : decode cX7_readItem 121 = .ok (.goto 100, 3) := by decide +kernel
theorem dX7_readItem_124 : decode cX7_readItem 124 = .ok (.iload_n 1, 1) := by decide +kernel
theorem dX7_readItem_125 : decode cX7_readItem 125 = .ok (.iconst 1, 1) := by decide +kernel
theorem dX7_readItem_126 : decode cX7_readItem 126 = .ok (.if_icmp .ne 79, 3) := by decide +kernel
theorem dX7_readItem_129 : decode cX7_readItem 129 = .ok (.bipush 8, 2) := by decide +kernel
theorem dX7_readItem_131 : decode cX7_readItem 131 = .ok (.aload_n 0, 1) := by decide +kernel
theorem dX7_readItem_132 : decode cX7_readItem 132 = .ok (.getfield 20, 3) := by decide +kernel
theorem dX7_readItem_135 : decode cX7_readItem 135 = .ok (.iconst 1, 1) := by decide +kernel
theorem dX7_readItem_136 : decode cX7_readItem 136 = .ok (.iaload, 1) := by decide +kernel
theorem dX7_readItem_137 : decode cX7_readItem 137 = .ok (.iadd, 1) := by decide +kernel
theorem dX7_readItem_138 : decode cX7_readItem 138 = .ok (.istore_n 2, 1) := by decide +kernel
theorem dX7_readItem_139 : decode cX7_readItem 139 = .ok (.iconst 0, 1) := by decide +kernel
theorem dX7_readItem_140 : decode cX7_readItem 140 = .ok (.istore_n 3, 1) := by decide +kernel
theorem dX7_readItem_141 : decode cX7_readItem 141 = .ok (.iload_n 3, 1) := by decide +kernel
theorem dX7_readItem_142 : decode cX7_readItem 142 = .ok (.iconst 5, 1) := by decide +kernel
theorem dX7_readItem_143 : decode cX7_readItem 143 = .ok (.if_icmp .ge 25, 3) := by decide +kernel
theorem dX7_readItem_146 : decode cX7_readItem 146 = .ok (.aload_n 0, 1) := by decide +kernel
theorem dX7_readItem_147 : decode cX7_readItem 147 = .ok (.getfield 23, 3) := by decide +kernel
theorem dX7_readItem_150 : decode cX7_readItem 150 = .ok (.iconst 5, 1) := by decide +kernel
theorem dX7_readItem_151 : decode cX7_readItem 151 = .ok (.iload_n 2, 1) := by decide +kernel
theorem dX7_readItem_152 : decode cX7_readItem 152 = .ok (.imul, 1) := by decide +kernel
theorem dX7_readItem_153 : decode cX7_readItem 153 = .ok (.iload_n 3, 1) := by decide +kernel
theorem dX7_readItem_154 : decode cX7_readItem 154 = .ok (.iadd, 1) := by decide +kernel
theorem dX7_readItem_155 : decode cX7_readItem 155 = .ok (.aload_n 0, 1) := by decide +kernel
theorem dX7_readItem_156 : decode cX7_readItem 156 = .ok (.bipush 9, 2) := by decide +kernel
theorem dX7_readItem_158 : decode cX7_readItem 158 = .ok (.invokevirtual 105, 3) := by decide +kernel
theorem dX7_readItem_161 : decode cX7_readItem 161 = .ok (.iastore, 1) := by decide +kernel
theorem dX7_readItem_162 : decode cX7_readItem 162 = .ok (.iinc 3 1, 3) := by decide +kernel
theorem dX7_readItem_165 : decode cX7_readItem 165 = .ok (.goto (-24), 3) := by decide +kernel
theorem dX7_readItem_168 : decode cX7_readItem 168 = .ok (.aload_n 0, 1) := by decide +kernel
theorem dX7_readItem_169 : decode cX7_readItem 169 = .ok (.getfield 26, 3) := by decide +kernel
theorem dX7_readItem_172 : decode cX7_readItem 172 = .ok (.iload_n 2, 1) := by decide +kernel
theorem dX7_readItem_173 : decode cX7_readItem 173 = .ok (.aload_n 0, 1) := by decide +kernel
