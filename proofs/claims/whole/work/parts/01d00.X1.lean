theorem dX0_init_0 : decode cX0_init 0 = .ok (.aload_n 0, 1) := by decide +kernel
theorem dX0_init_1 : decode cX0_init 1 = .ok (.invokespecial 3, 3) := by decide +kernel
theorem dX0_init_4 : decode cX0_init 4 = .ok (.aload_n 0, 1) := by decide +kernel
theorem dX0_init_5 : decode cX0_init 5 = .ok (.bipush 8, 2) := by decide +kernel
theorem dX0_init_7 : decode cX0_init 7 = .ok (.newarray .long, 2) := by decide +kernel
theorem dX0_init_9 : decode cX0_init 9 = .ok (.putfield 9, 3) := by decide +kernel
theorem dX0_init_12 : decode cX0_init 12 = .ok (.aload_n 0, 1) := by decide +kernel
theorem dX0_init_13 : decode cX0_init 13 = .ok (.bipush 8, 2) := by decide +kernel
theorem dX0_init_15 : decode cX0_init 15 = .ok (.newarray .long, 2) := by decide +kernel
theorem dX0_init_17 : decode cX0_init 17 = .ok (.putfield 15, 3) := by decide +kernel
theorem dX0_init_20 : decode cX0_init 20 = .ok (.return_, 1) := by decide +kernel
theorem dX0_begin_0 : decode cX0_begin 0 = .ok (.iconst 0, 1) := by decide +kernel
theorem dX0_begin_1 : decode cX0_begin 1 = .ok (.istore_n 2, 1) := by decide +kernel
theorem dX0_begin_2 : decode cX0_begin 2 = .ok (.iload_n 2, 1) := by decide +kernel
theorem dX0_begin_3 : decode cX0_begin 3 = .ok (.bipush 8, 2) := by decide +kernel
theorem dX0_begin_5 : decode cX0_begin 5 = .ok (.if_icmp .ge 25, 3) := by decide +kernel
theorem dX0_begin_8 : decode cX0_begin 8 = .ok (.aload_n 0, 1) := by decide +kernel
theorem dX0_begin_9 : decode cX0_begin 9 = .ok (.getfield 9, 3) := by decide +kernel
theorem dX0_begin_12 : decode cX0_begin 12 = .ok (.iload_n 2, 1) := by decide +kernel
theorem dX0_begin_13 : decode cX0_begin 13 = .ok (.iload_n 2, 1) := by decide +kernel
theorem dX0_begin_14 : decode cX0_begin 14 = .ok (.iload_n 1, 1) := by decide +kernel
theorem dX0_begin_15 : decode cX0_begin 15 = .ok (.if_icmp .ne 7, 3) := by decide +kernel
theorem dX0_begin_18 : decode cX0_begin 18 = .ok (.lconst 1, 1) := by decide +kernel
theorem dX0_begin_19 : decode cX0_begin 19 = .ok (.goto 4, 3) := by decide +kernel
theorem dX0_begin_22 : decode cX0_begin 22 = .ok (.lconst 0, 1) := by decide +kernel
theorem dX0_begin_23 : decode cX0_begin 23 = .ok (.lastore, 1) := by decide +kernel
theorem dX0_begin_24 : decode cX0_begin 24 = .ok (.iinc 2 1, 3) := by decide +kernel
theorem dX0_begin_27 : decode cX0_begin 27 = .ok (.goto (-25), 3) := by decide +kernel
theorem dX0_begin_30 : decode cX0_begin 30 = .ok (.return_, 1) := by decide +kernel
theorem dX0_read_0 : decode cX0_read 0 = .ok (.iconst 0, 1) := by decide +kernel
theorem dX0_read_1 : decode cX0_read 1 = .ok (.istore_n 3, 1) := by decide +kernel
theorem dX0_read_2 : decode cX0_read 2 = .ok (.iload_n 3, 1) := by decide +kernel
theorem dX0_read_3 : decode cX0_read 3 = .ok (.bipush 8, 2) := by decide +kernel
theorem dX0_read_5 : decode cX0_read 5 = .ok (.if_icmp .ge 16, 3) := by decide +kernel
theorem dX0_read_8 : decode cX0_read 8 = .ok (.aload_n 0, 1) := by decide +kernel
theorem dX0_read_9 : decode cX0_read 9 = .ok (.getfield 15, 3) := by decide +kernel
theorem dX0_read_12 : decode cX0_read 12 = .ok (.iload_n 3, 1) := by decide +kernel
theorem dX0_read_13 : decode cX0_read 13 = .ok (.lconst 0, 1) := by decide +kernel
theorem dX0_read_14 : decode cX0_read 14 = .ok (.lastore, 1) := by decide +kernel
theorem dX0_read_15 : decode cX0_read 15 = .ok (.iinc 3 1, 3) := by decide +kernel
theorem dX0_read_18 : decode cX0_read 18 = .ok (.goto (-16), 3) := by decide +kernel
theorem dX0_read_21 : decode cX0_read 21 = .ok (.iconst 0, 1) := by decide +kernel
theorem dX0_read_22 : decode cX0_read 22 = .ok (.istore_n 3, 1) := by decide +kernel
theorem dX0_read_23 : decode cX0_read 23 = .ok (.iload_n 3, 1) := by decide +kernel
theorem dX0_read_24 : decode cX0_read 24 = .ok (.bipush 8, 2) := by decide +kernel
theorem dX0_read_26 : decode cX0_read 26 = .ok (.if_icmp .ge 88, 3) := by decide +kernel
theorem dX0_read_29 : decode cX0_read 29 = .ok (.aload_n 1, 1) := by decide +kernel
theorem dX0_read_30 : decode cX0_read 30 = .ok (.iload_n 3, 1) := by decide +kernel
theorem dX0_read_31 : decode cX0_read 31 = .ok (.invokevirtual 18, 3) := by decide +kernel
theorem dX0_read_34 : decode cX0_read 34 = .ok (.istore 4, 2) := by decide +kernel
theorem dX0_read_36 : decode cX0_read 36 = .ok (.iload 4, 2) := by decide +kernel
theorem dX0_read_38 : decode cX0_read 38 = .ok (.invokestatic 24, 3) := by decide +kernel
theorem dX0_read_41 : decode cX0_read 41 = .ok (.ifCond .ne 6, 3) := by decide +kernel
theorem dX0_read_44 : decode cX0_read 44 = .ok (.goto 64, 3) := by decide +kernel
theorem dX0_read_47 : decode cX0_read 47 = .ok (.iconst 0, 1) := by decide +kernel
theorem dX0_read_48 : decode cX0_read 48 = .ok (.istore 5, 2) := by decide +kernel
theorem dX0_read_50 : decode cX0_read 50 = .ok (.iload 5, 2) := by decide +kernel
theorem dX0_read_52 : decode cX0_read 52 = .ok (.bipush 8, 2) := by decide +kernel
theorem dX0_read_54 : decode cX0_read 54 = .ok (.if_icmp .ge 54, 3) := by decide +kernel
theorem dX0_read_57 : decode cX0_read 57 = .ok (.aload_n 1, 1) := by decide +kernel
theorem dX0_read_58 : decode cX0_read 58 = .ok (.iload 5, 2) := by decide +kernel
theorem dX0_read_60 : decode cX0_read 60 = .ok (.invokevirtual 28, 3) := by decide +kernel
theorem dX0_read_63 : decode cX0_read 63 = .ok (.istore 6, 2) := by decide +kernel
theorem dX0_read_65 : decode cX0_read 65 = .ok (.iload 6, 2) := by decide +kernel
theorem dX0_read_67 : decode cX0_read 67 = .ok (.iconst (-1), 1) := by decide +kernel
theorem dX0_read_68 : decode cX0_read 68 = .ok (.if_icmp .eq 34, 3) := by decide +kernel
theorem dX0_read_71 : decode cX0_read 71 = .ok (.aload_n 0, 1) := by decide +kernel
theorem dX0_read_72 : decode cX0_read 72 = .ok (.getfield 15, 3) := by decide +kernel
theorem dX0_read_75 : decode cX0_read 75 = .ok (.iload 4, 2) := by decide +kernel
theorem dX0_read_77 : decode cX0_read 77 = .ok (.dup2, 1) := by decide +kernel
theorem dX0_read_78 : decode cX0_read 78 = .ok (.laload, 1) := by decide +kernel
theorem dX0_read_79 : decode cX0_read 79 = .ok (.aload_n 0, 1) := by decide +kernel
theorem dX0_read_80 : decode cX0_read 80 = .ok (.getfield 9, 3) := by decide +kernel
theorem dX0_read_83 : decode cX0_read 83 = .ok (.iload 5, 2) := by decide +kernel
theorem dX0_read_85 : decode cX0_read 85 = .ok (.laload, 1) := by decide +kernel
theorem dX0_read_86 : decode cX0_read 86 = .ok (.aload_n 2, 1) := by decide +kernel
theorem dX0_read_87 : decode cX0_read 87 = .ok (.aload_n 1, 1) := by decide +kernel
theorem dX0_read_88 : decode cX0_read 88 = .ok (.getfield 31, 3) := by decide +kernel
theorem dX0_read_91 : decode cX0_read 91 = .ok (.iload 6, 2) := by decide +kernel
theorem dX0_read_93 : decode cX0_read 93 = .ok (.iaload, 1) := by decide +kernel
theorem dX0_read_94 : decode cX0_read 94 = .ok (.iload_n 3, 1) := by decide +kernel
theorem dX0_read_95 : decode cX0_read 95 = .ok (.invokevirtual 35, 3) := by decide +kernel
theorem dX0_read_98 : decode cX0_read 98 = .ok (.i2l, 1) := by decide +kernel
theorem dX0_read_99 : decode cX0_read 99 = .ok (.lmul, 1) := by decide +kernel
theorem dX0_read_100 : decode cX0_read 100 = .ok (.ladd, 1) := by decide +kernel
theorem dX0_read_101 : decode cX0_read 101 = .ok (.lastore, 1) := by decide +kernel
theorem dX0_read_102 : decode cX0_read 102 = .ok (.iinc 5 1, 3) := by decide +kernel
theorem dX0_read_105 : decode cX0_read 105 = .ok (.goto (-55), 3) := by decide +kernel
theorem dX0_read_108 : decode cX0_read 108 = .ok (.iinc 3 1, 3) := by decide +kernel
theorem dX0_read_111 : decode cX0_read 111 = .ok (.goto (-88), 3) := by decide +kernel
theorem dX0_read_114 : decode cX0_read 114 = .ok (.iconst 0, 1) := by decide +kernel
theorem dX0_read_115 : decode cX0_read 115 = .ok (.istore_n 3, 1) := by decide +kernel
theorem dX0_read_116 : decode cX0_read 116 = .ok (.iload_n 3, 1) := by decide +kernel
theorem dX0_read_117 : decode cX0_read 117 = .ok (.bipush 8, 2) := by decide +kernel
theorem dX0_read_119 : decode cX0_read 119 = .ok (.if_icmp .ge 21, 3) := by decide +kernel
theorem dX0_read_122 : decode cX0_read 122 = .ok (.aload_n 0, 1) := by decide +kernel
theorem dX0_read_123 : decode cX0_read 123 = .ok (.getfield 9, 3) := by decide +kernel
theorem dX0_read_126 : decode cX0_read 126 = .ok (.iload_n 3, 1) := by decide +kernel
theorem dX0_read_127 : decode cX0_read 127 = .ok (.aload_n 0, 1) := by decide +kernel
theorem dX0_read_128 : decode cX0_read 128 = .ok (.getfield 15, 3) := by decide +kernel
theorem dX0_read_131 : decode cX0_read 131 = .ok (.iload_n 3, 1) := by decide +kernel
theorem dX0_read_132 : decode cX0_read 132 = .ok (.laload, 1) := by decide +kernel
theorem dX0_read_133 : decode cX0_read 133 = .ok (.lastore, 1) := by decide +kernel
theorem dX0_read_134 : decode cX0_read 134 = .ok (.iinc 3 1, 3) := by decide +kernel
theorem dX0_read_137 : decode cX0_read 137 = .ok (.goto (-21), 3) := by decide +kernel
theorem dX0_read_140 : decode cX0_read 140 = .ok (.return_, 1) := by decide +kernel
theorem dX1_init_0 : decode cX1_init 0 = .ok (.aload_n 0, 1) := by decide +kernel
theorem dX1_init_1 : decode cX1_init 1 = .ok (.invokespecial 3, 3) := by decide +kernel
theorem dX1_init_4 : decode cX1_init 4 = .ok (.aload_n 0, 1) := by decide +kernel
theorem dX1_init_5 : decode cX1_init 5 = .ok (.bipush 40, 2) := by decide +kernel
theorem dX1_init_7 : decode cX1_init 7 = .ok (.newarray .int, 2) := by decide +kernel
theorem dX1_init_9 : decode cX1_init 9 = .ok (.putfield 9, 3) := by decide +kernel
theorem dX1_init_12 : decode cX1_init 12 = .ok (.aload_n 0, 1) := by decide +kernel
theorem dX1_init_13 : decode cX1_init 13 = .ok (.bipush 8, 2) := by decide +kernel
theorem dX1_init_15 : decode cX1_init 15 = .ok (.newarray .int, 2) := by decide +kernel
theorem dX1_init_17 : decode cX1_init 17 = .ok (.putfield 15, 3) := by decide +kernel
theorem dX1_init_20 : decode cX1_init 20 = .ok (.aload_n 0, 1) := by decide +kernel
theorem dX1_init_21 : decode cX1_init 21 = .ok (.bipush 8, 2) := by decide +kernel
theorem dX1_init_23 : decode cX1_init 23 = .ok (.newarray .int, 2) := by decide +kernel
theorem dX1_init_25 : decode cX1_init 25 = .ok (.putfield 18, 3) := by decide +kernel
theorem dX1_init_28 : decode cX1_init 28 = .ok (.aload_n 0, 1) := by decide +kernel
theorem dX1_init_29 : decode cX1_init 29 = .ok (.bipush 8, 2) := by decide +kernel
theorem dX1_init_31 : decode cX1_init 31 = .ok (.newarray .int, 2) := by decide +kernel
theorem dX1_init_33 : decode cX1_init 33 = .ok (.putfield 21, 3) := by decide +kernel
theorem dX1_init_36 : decode cX1_init 36 = .ok (.aload_n 0, 1) := by decide +kernel
theorem dX1_init_37 : decode cX1_init 37 = .ok (.iconst 0, 1) := by decide +kernel
theorem dX1_init_38 : decode cX1_init 38 = .ok (.putfield 24, 3) := by decide +kernel
theorem dX1_init_41 : decode cX1_init 41 = .ok (.return_, 1) := by decide +kernel
theorem dX1_become_0 : decode cX1_become 0 = .ok (.aload_n 0, 1) := by decide +kernel
theorem dX1_become_1 : decode cX1_become 1 = .ok (.aload_n 1, 1) := by decide +kernel
theorem dX1_become_2 : decode cX1_become 2 = .ok (.getfield 24, 3) := by decide +kernel
theorem dX1_become_5 : decode cX1_become 5 = .ok (.putfield 24, 3) := by decide +kernel
theorem dX1_become_8 : decode cX1_become 8 = .ok (.iconst 0, 1) := by decide +kernel
theorem dX1_become_9 : decode cX1_become 9 = .ok (.istore_n 2, 1) := by decide +kernel
theorem dX1_become_10 : decode cX1_become 10 = .ok (.iload_n 2, 1) := by decide +kernel
theorem dX1_become_11 : decode cX1_become 11 = .ok (.bipush 40, 2) := by decide +kernel
theorem dX1_become_13 : decode cX1_become 13 = .ok (.if_icmp .ge 21, 3) := by decide +kernel
theorem dX1_become_16 : decode cX1_become 16 = .ok (.aload_n 0, 1) := by decide +kernel
theorem dX1_become_17 : decode cX1_become 17 = .ok (.getfield 9, 3) := by decide +kernel
theorem dX1_become_20 : decode cX1_become 20 = .ok (.iload_n 2, 1) := by decide +kernel
theorem dX1_become_21 : decode cX1_become 21 = .ok (.aload_n 1, 1) := by decide +kernel
theorem dX1_become_22 : decode cX1_become 22 = .ok (.getfield 9, 3) := by decide +kernel
theorem dX1_become_25 : decode cX1_become 25 = .ok (.iload_n 2, 1) := by decide +kernel
theorem dX1_become_26 : decode cX1_become 26 = .ok (.iaload, 1) := by decide +kernel
theorem dX1_become_27 : decode cX1_become 27 = .ok (.iastore, 1) := by decide +kernel
theorem dX1_become_28 : decode cX1_become 28 = .ok (.iinc 2 1, 3) := by decide +kernel
theorem dX1_become_31 : decode cX1_become 31 = .ok (.goto (-21), 3) := by decide +kernel
theorem dX1_become_34 : decode cX1_become 34 = .ok (.iconst 0, 1) := by decide +kernel
theorem dX1_become_35 : decode cX1_become 35 = .ok (.istore_n 2, 1) := by decide +kernel
theorem dX1_become_36 : decode cX1_become 36 = .ok (.iload_n 2, 1) := by decide +kernel
theorem dX1_become_37 : decode cX1_become 37 = .ok (.bipush 8, 2) := by decide +kernel
theorem dX1_become_39 : decode cX1_become 39 = .ok (.if_icmp .ge 45, 3) := by decide +kernel
theorem dX1_become_42 : decode cX1_become 42 = .ok (.aload_n 0, 1) := by decide +kernel
theorem dX1_become_43 : decode cX1_become 43 = .ok (.getfield 15, 3) := by decide +kernel
theorem dX1_become_46 : decode cX1_become 46 = .ok (.iload_n 2, 1) := by decide +kernel
theorem dX1_become_47 : decode cX1_become 47 = .ok (.aload_n 1, 1) := by decide +kernel
theorem dX1_become_48 : decode cX1_become 48 = .ok (.getfield 15, 3) := by decide +kernel
theorem dX1_become_51 : decode cX1_become 51 = .ok (.iload_n 2, 1) := by decide +kernel
theorem dX1_become_52 : decode cX1_become 52 = .ok (.iaload, 1) := by decide +kernel
theorem dX1_become_53 : decode cX1_become 53 = .ok (.iastore, 1) := by decide +kernel
theorem dX1_become_54 : decode cX1_become 54 = .ok (.aload_n 0, 1) := by decide +kernel
theorem dX1_become_55 : decode cX1_become 55 = .ok (.getfield 18, 3) := by decide +kernel
theorem dX1_become_58 : decode cX1_become 58 = .ok (.iload_n 2, 1) := by decide +kernel
theorem dX1_become_59 : decode cX1_become 59 = .ok (.aload_n 1, 1) := by decide +kernel
theorem dX1_become_60 : decode cX1_become 60 = .ok (.getfield 18, 3) := by decide +kernel
theorem dX1_become_63 : decode cX1_become 63 = .ok (.iload_n 2, 1) := by decide +kernel
theorem dX1_become_64 : decode cX1_become 64 = .ok (.iaload, 1) := by decide +kernel
theorem dX1_become_65 : decode cX1_become 65 = .ok (.iastore, 1) := by decide +kernel
theorem dX1_become_66 : decode cX1_become 66 = .ok (.aload_n 0, 1) := by decide +kernel
theorem dX1_become_67 : decode cX1_become 67 = .ok (.getfield 21, 3) := by decide +kernel
theorem dX1_become_70 : decode cX1_become 70 = .ok (.iload_n 2, 1) := by decide +kernel
theorem dX1_become_71 : decode cX1_become 71 = .ok (.aload_n 1, 1) := by decide +kernel
theorem dX1_become_72 : decode cX1_become 72 = .ok (.getfield 21, 3) := by decide +kernel
theorem dX1_become_75 : decode cX1_become 75 = .ok (.iload_n 2, 1) := by decide +kernel
theorem dX1_become_76 : decode cX1_become 76 = .ok (.iaload, 1) := by decide +kernel
theorem dX1_become_77 : decode cX1_become 77 = .ok (.iastore, 1) := by decide +kernel
theorem dX1_become_78 : decode cX1_become 78 = .ok (.iinc 2 1, 3) := by decide +kernel
theorem dX1_become_81 : decode cX1_become 81 = .ok (.goto (-45), 3) := by decide +kernel
theorem dX1_become_84 : decode cX1_become 84 = .ok (.return_, 1) := by decide +kernel
theorem dX1_list_0 : decode cX1_list 0 = .ok (.aload_n 0, 1) := by decide +kernel
theorem dX1_list_1 : decode cX1_list 1 = .ok (.getfield 24, 3) := by decide +kernel
theorem dX1_list_4 : decode cX1_list 4 = .ok (.bipush 8, 2) := by decide +kernel
theorem dX1_list_6 : decode cX1_list 6 = .ok (.if_icmp .ge 10, 3) := by decide +kernel
theorem dX1_list_9 : decode cX1_list 9 = .ok (.aload_n 1, 1) := by decide +kernel
theorem dX1_list_10 : decode cX1_list 10 = .ok (.arraylength, 1) := by decide +kernel
theorem dX1_list_11 : decode cX1_list 11 = .ok (.bipush 7, 2) := by decide +kernel
theorem dX1_list_13 : decode cX1_list 13 = .ok (.if_icmp .ge 4, 3) := by decide +kernel
theorem dX1_list_16 : decode cX1_list 16 = .ok (.return_, 1) := by decide +kernel
theorem dX1_list_17 : decode cX1_list 17 = .ok (.iconst 0, 1) := by decide +kernel
theorem dX1_list_18 : decode cX1_list 18 = .ok (.istore_n 2, 1) := by decide +kernel
theorem dX1_list_19 : decode cX1_list 19 = .ok (.iconst 0, 1) := by decide +kernel
theorem dX1_list_20 : decode cX1_list 20 = .ok (.istore_n 3, 1) := by decide +kernel
theorem dX1_list_21 : decode cX1_list 21 = .ok (.iload_n 3, 1) := by decide +kernel
theorem dX1_list_22 : decode cX1_list 22 = .ok (.iconst 5, 1) := by decide +kernel
theorem dX1_list_23 : decode cX1_list 23 = .ok (.if_icmp .ge 31, 3) := by decide +kernel
theorem dX1_list_26 : decode cX1_list 26 = .ok (.aload_n 0, 1) := by decide +kernel
theorem dX1_list_27 : decode cX1_list 27 = .ok (.getfield 9, 3) := by decide +kernel
theorem dX1_list_30 : decode cX1_list 30 = .ok (.aload_n 0, 1) := by decide +kernel
theorem dX1_list_31 : decode cX1_list 31 = .ok (.getfield 24, 3) := by decide +kernel
theorem dX1_list_34 : decode cX1_list 34 = .ok (.iconst 5, 1) := by decide +kernel
theorem dX1_list_35 : decode cX1_list 35 = .ok (.imul, 1) := by decide +kernel
theorem dX1_list_36 : decode cX1_list 36 = .ok (.iload_n 3, 1) := by decide +kernel
theorem dX1_list_37 : decode cX1_list 37 = .ok (.iadd, 1) := by decide +kernel
theorem dX1_list_38 : decode cX1_list 38 = .ok (.aload_n 1, 1) := by decide +kernel
theorem dX1_list_39 : decode cX1_list 39 = .ok (.iload_n 3, 1) := by decide +kernel
theorem dX1_list_40 : decode cX1_list 40 = .ok (.iaload, 1) := by decide +kernel
theorem dX1_list_41 : decode cX1_list 41 = .ok (.iastore, 1) := by decide +kernel
theorem dX1_list_42 : decode cX1_list 42 = .ok (.iload_n 2, 1) := by decide +kernel
theorem dX1_list_43 : decode cX1_list 43 = .ok (.aload_n 1, 1) := by decide +kernel
theorem dX1_list_44 : decode cX1_list 44 = .ok (.iload_n 3, 1) := by decide +kernel
theorem dX1_list_45 : decode cX1_list 45 = .ok (.iaload, 1) := by decide +kernel
theorem dX1_list_46 : decode cX1_list 46 = .ok (.iadd, 1) := by decide +kernel
theorem dX1_list_47 : decode cX1_list 47 = .ok (.istore_n 2, 1) := by decide +kernel
theorem dX1_list_48 : decode cX1_list 48 = .ok (.iinc 3 1, 3) := by decide +kernel
theorem dX1_list_51 : decode cX1_list 51 = .ok (.goto (-30), 3) := by decide +kernel
theorem dX1_list_54 : decode cX1_list 54 = .ok (.aload_n 0, 1) := by decide +kernel
theorem dX1_list_55 : decode cX1_list 55 = .ok (.getfield 15, 3) := by decide +kernel
theorem dX1_list_58 : decode cX1_list 58 = .ok (.aload_n 0, 1) := by decide +kernel
theorem dX1_list_59 : decode cX1_list 59 = .ok (.getfield 24, 3) := by decide +kernel
theorem dX1_list_62 : decode cX1_list 62 = .ok (.iload_n 2, 1) := by decide +kernel
theorem dX1_list_63 : decode cX1_list 63 = .ok (.iastore, 1) := by decide +kernel
theorem dX1_list_64 : decode cX1_list 64 = .ok (.aload_n 0, 1) := by decide +kernel
theorem dX1_list_65 : decode cX1_list 65 = .ok (.getfield 18, 3) := by decide +kernel
theorem dX1_list_68 : decode cX1_list 68 = .ok (.aload_n 0, 1) := by decide +kernel
theorem dX1_list_69 : decode cX1_list 69 = .ok (.getfield 24, 3) := by decide +kernel
theorem dX1_list_72 : decode cX1_list 72 = .ok (.aload_n 1, 1) := by decide +kernel
theorem dX1_list_73 : decode cX1_list 73 = .ok (.iconst 5, 1) := by decide +kernel
theorem dX1_list_74 : decode cX1_list 74 = .ok (.iaload, 1) := by decide +kernel
theorem dX1_list_75 : decode cX1_list 75 = .ok (.iastore, 1) := by decide +kernel
theorem dX1_list_76 : decode cX1_list 76 = .ok (.aload_n 0, 1) := by decide +kernel
theorem dX1_list_77 : decode cX1_list 77 = .ok (.getfield 21, 3) := by decide +kernel
theorem dX1_list_80 : decode cX1_list 80 = .ok (.aload_n 0, 1) := by decide +kernel
theorem dX1_list_81 : decode cX1_list 81 = .ok (.getfield 24, 3) := by decide +kernel
theorem dX1_list_84 : decode cX1_list 84 = .ok (.aload_n 1, 1) := by decide +kernel
theorem dX1_list_85 : decode cX1_list 85 = .ok (.bipush 6, 2) := by decide +kernel
theorem dX1_list_87 : decode cX1_list 87 = .ok (.iaload, 1) := by decide +kernel
theorem dX1_list_88 : decode cX1_list 88 = .ok (.iastore, 1) := by decide +kernel
theorem dX1_list_89 : decode cX1_list 89 = .ok (.aload_n 0, 1) := by decide +kernel
theorem dX1_list_90 : decode cX1_list 90 = .ok (.dup, 1) := by decide +kernel
theorem dX1_list_91 : decode cX1_list 91 = .ok (.getfield 24, 3) := by decide +kernel
theorem dX1_list_94 : decode cX1_list 94 = .ok (.iconst 1, 1) := by decide +kernel
theorem dX1_list_95 : decode cX1_list 95 = .ok (.iadd, 1) := by decide +kernel
theorem dX1_list_96 : decode cX1_list 96 = .ok (.putfield 24, 3) := by decide +kernel
theorem dX1_list_99 : decode cX1_list 99 = .ok (.return_, 1) := by decide +kernel
theorem dX1_lists_0 : decode cX1_lists 0 = .ok (.iload_n 1, 1) := by decide +kernel
theorem dX1_lists_1 : decode cX1_lists 1 = .ok (.ifCond .lt 15, 3) := by decide +kernel
theorem dX1_lists_4 : decode cX1_lists 4 = .ok (.iload_n 1, 1) := by decide +kernel
theorem dX1_lists_5 : decode cX1_lists 5 = .ok (.aload_n 0, 1) := by decide +kernel
theorem dX1_lists_6 : decode cX1_lists 6 = .ok (.getfield 24, 3) := by decide +kernel
theorem dX1_lists_9 : decode cX1_lists 9 = .ok (.if_icmp .ge 7, 3) := by decide +kernel
theorem dX1_lists_12 : decode cX1_lists 12 = .ok (.iconst 1, 1) := by decide +kernel
theorem dX1_lists_13 : decode cX1_lists 13 = .ok (.goto 4, 3) := by decide +kernel
theorem dX1_lists_16 : decode cX1_lists 16 = .ok (.iconst 0, 1) := by decide +kernel
theorem dX1_lists_17 : decode cX1_lists 17 = .ok (.ireturn, 1) := by decide +kernel
theorem dX1_need_0 : decode cX1_need 0 = .ok (.aload_n 0, 1) := by decide +kernel
theorem dX1_need_1 : decode cX1_need 1 = .ok (.getfield 9, 3) := by decide +kernel
theorem dX1_need_4 : decode cX1_need 4 = .ok (.iload_n 1, 1) := by decide +kernel
theorem dX1_need_5 : decode cX1_need 5 = .ok (.iconst 5, 1) := by decide +kernel
theorem dX1_need_6 : decode cX1_need 6 = .ok (.imul, 1) := by decide +kernel
theorem dX1_need_7 : decode cX1_need 7 = .ok (.iload_n 2, 1) := by decide +kernel
theorem dX1_need_8 : decode cX1_need 8 = .ok (.iadd, 1) := by decide +kernel
theorem dX1_need_9 : decode cX1_need 9 = .ok (.iaload, 1) := by decide +kernel
theorem dX1_need_10 : decode cX1_need 10 = .ok (.ireturn, 1) := by decide +kernel
theorem dX1_fits_0 : decode cX1_fits 0 = .ok (.iconst 0, 1) := by decide +kernel
theorem dX1_fits_1 : decode cX1_fits 1 = .ok (.istore_n 3, 1) := by decide +kernel
theorem dX1_fits_2 : decode cX1_fits 2 = .ok (.iload_n 3, 1) := by decide +kernel
theorem dX1_fits_3 : decode cX1_fits 3 = .ok (.iconst 5, 1) := by decide +kernel
theorem dX1_fits_4 : decode cX1_fits 4 = .ok (.if_icmp .ge 23, 3) := by decide +kernel
theorem dX1_fits_7 : decode cX1_fits 7 = .ok (.aload_n 0, 1) := by decide +kernel
theorem dX1_fits_8 : decode cX1_fits 8 = .ok (.iload_n 1, 1) := by decide +kernel
theorem dX1_fits_9 : decode cX1_fits 9 = .ok (.iload_n 3, 1) := by decide +kernel
theorem dX1_fits_10 : decode cX1_fits 10 = .ok (.invokevirtual 28, 3) := by decide +kernel
theorem dX1_fits_13 : decode cX1_fits 13 = .ok (.aload_n 2, 1) := by decide +kernel
theorem dX1_fits_14 : decode cX1_fits 14 = .ok (.iload_n 3, 1) := by decide +kernel
theorem dX1_fits_15 : decode cX1_fits 15 = .ok (.iaload, 1) := by decide +kernel
theorem dX1_fits_16 : decode cX1_fits 16 = .ok (.if_icmp .le 5, 3) := by decide +kernel
theorem dX1_fits_19 : decode cX1_fits 19 = .ok (.iconst 0, 1) := by decide +kernel
theorem dX1_fits_20 : decode cX1_fits 20 = .ok (.ireturn, 1) := by decide +kernel
theorem dX1_fits_21 : decode cX1_fits 21 = .ok (.iinc 3 1, 3) := by decide +kernel
theorem dX1_fits_24 : decode cX1_fits 24 = .ok (.goto (-22), 3) := by decide +kernel
theorem dX1_fits_27 : decode cX1_fits 27 = .ok (.iconst 1, 1) := by decide +kernel
theorem dX1_fits_28 : decode cX1_fits 28 = .ok (.ireturn, 1) := by decide +kernel
theorem dX1_take_0 : decode cX1_take 0 = .ok (.iconst 0, 1) := by decide +kernel
theorem dX1_take_1 : decode cX1_take 1 = .ok (.istore_n 3, 1) := by decide +kernel
theorem dX1_take_2 : decode cX1_take 2 = .ok (.iload_n 3, 1) := by decide +kernel
theorem dX1_take_3 : decode cX1_take 3 = .ok (.iconst 5, 1) := by decide +kernel
theorem dX1_take_4 : decode cX1_take 4 = .ok (.if_icmp .ge 21, 3) := by decide +kernel
theorem dX1_take_7 : decode cX1_take 7 = .ok (.aload_n 2, 1) := by decide +kernel
theorem dX1_take_8 : decode cX1_take 8 = .ok (.iload_n 3, 1) := by decide +kernel
theorem dX1_take_9 : decode cX1_take 9 = .ok (.dup2, 1) := by decide +kernel
theorem dX1_take_10 : decode cX1_take 10 = .ok (.iaload, 1) := by decide +kernel
theorem dX1_take_11 : decode cX1_take 11 = .ok (.aload_n 0, 1) := by decide +kernel
theorem dX1_take_12 : decode cX1_take 12 = .ok (.iload_n 1, 1) := by decide +kernel
theorem dX1_take_13 : decode cX1_take 13 = .ok (.iload_n 3, 1) := by decide +kernel
theorem dX1_take_14 : decode cX1_take 14 = .ok (.invokevirtual 28, 3) := by decide +kernel
theorem dX1_take_17 : decode cX1_take 17 = .ok (.isub, 1) := by decide +kernel
theorem dX1_take_18 : decode cX1_take 18 = .ok (.iastore, 1) := by decide +kernel
theorem dX1_take_19 : decode cX1_take 19 = .ok (.iinc 3 1, 3) := by decide +kernel
theorem dX1_take_22 : decode cX1_take 22 = .ok (.goto (-20), 3) := by decide +kernel
theorem dX1_take_25 : decode cX1_take 25 = .ok (.return_, 1) := by decide +kernel
theorem dX1_putBack_0 : decode cX1_putBack 0 = .ok (.iconst 0, 1) := by decide +kernel
theorem dX1_putBack_1 : decode cX1_putBack 1 = .ok (.istore_n 3, 1) := by decide +kernel
theorem dX1_putBack_2 : decode cX1_putBack 2 = .ok (.iload_n 3, 1) := by decide +kernel
theorem dX1_putBack_3 : decode cX1_putBack 3 = .ok (.iconst 5, 1) := by decide +kernel
theorem dX1_putBack_4 : decode cX1_putBack 4 = .ok (.if_icmp .ge 21, 3) := by decide +kernel
theorem dX1_putBack_7 : decode cX1_putBack 7 = .ok (.aload_n 2, 1) := by decide +kernel
theorem dX1_putBack_8 : decode cX1_putBack 8 = .ok (.iload_n 3, 1) := by decide +kernel
theorem dX1_putBack_9 : decode cX1_putBack 9 = .ok (.dup2, 1) := by decide +kernel
theorem dX1_putBack_10 : decode cX1_putBack 10 = .ok (.iaload, 1) := by decide +kernel
theorem dX1_putBack_11 : decode cX1_putBack 11 = .ok (.aload_n 0, 1) := by decide +kernel
theorem dX1_putBack_12 : decode cX1_putBack 12 = .ok (.iload_n 1, 1) := by decide +kernel
theorem dX1_putBack_13 : decode cX1_putBack 13 = .ok (.iload_n 3, 1) := by decide +kernel
theorem dX1_putBack_14 : decode cX1_putBack 14 = .ok (.invokevirtual 28, 3) := by decide +kernel
theorem dX1_putBack_17 : decode cX1_putBack 17 = .ok (.iadd, 1) := by decide +kernel
theorem dX1_putBack_18 : decode cX1_putBack 18 = .ok (.iastore, 1) := by decide +kernel
theorem dX1_putBack_19 : decode cX1_putBack 19 = .ok (.iinc 3 1, 3) := by decide +kernel
theorem dX1_putBack_22 : decode cX1_putBack 22 = .ok (.goto (-20), 3) := by decide +kernel
theorem dX1_putBack_25 : decode cX1_putBack 25 = .ok (.return_, 1) := by decide +kernel
theorem dX1_leanest_0 : decode cX1_leanest 0 = .ok (.iconst (-1), 1) := by decide +kernel
theorem dX1_leanest_1 : decode cX1_leanest 1 = .ok (.istore_n 2, 1) := by decide +kernel
theorem dX1_leanest_2 : decode cX1_leanest 2 = .ok (.iconst 0, 1) := by decide +kernel
theorem dX1_leanest_3 : decode cX1_leanest 3 = .ok (.istore_n 3, 1) := by decide +kernel
theorem dX1_leanest_4 : decode cX1_leanest 4 = .ok (.iload_n 3, 1) := by decide +kernel
theorem dX1_leanest_5 : decode cX1_leanest 5 = .ok (.aload_n 0, 1) := by decide +kernel
theorem dX1_leanest_6 : decode cX1_leanest 6 = .ok (.getfield 24, 3) := by decide +kernel
theorem dX1_leanest_9 : decode cX1_leanest 9 = .ok (.if_icmp .ge 40, 3) := by decide +kernel
theorem dX1_leanest_12 : decode cX1_leanest 12 = .ok (.aload_n 0, 1) := by decide +kernel
theorem dX1_leanest_13 : decode cX1_leanest 13 = .ok (.iload_n 3, 1) := by decide +kernel
theorem dX1_leanest_14 : decode cX1_leanest 14 = .ok (.aload_n 1, 1) := by decide +kernel
theorem dX1_leanest_15 : decode cX1_leanest 15 = .ok (.invokevirtual 32, 3) := by decide +kernel
theorem dX1_leanest_18 : decode cX1_leanest 18 = .ok (.ifCond .eq 25, 3) := by decide +kernel
theorem dX1_leanest_21 : decode cX1_leanest 21 = .ok (.iload_n 2, 1) := by decide +kernel
theorem dX1_leanest_22 : decode cX1_leanest 22 = .ok (.iconst (-1), 1) := by decide +kernel
theorem dX1_leanest_23 : decode cX1_leanest 23 = .ok (.if_icmp .eq 18, 3) := by decide +kernel
theorem dX1_leanest_26 : decode cX1_leanest 26 = .ok (.aload_n 0, 1) := by decide +kernel
theorem dX1_leanest_27 : decode cX1_leanest 27 = .ok (.getfield 15, 3) := by decide +kernel
theorem dX1_leanest_30 : decode cX1_leanest 30 = .ok (.iload_n 3, 1) := by decide +kernel
theorem dX1_leanest_31 : decode cX1_leanest 31 = .ok (.iaload, 1) := by decide +kernel
theorem dX1_leanest_32 : decode cX1_leanest 32 = .ok (.aload_n 0, 1) := by decide +kernel
theorem dX1_leanest_33 : decode cX1_leanest 33 = .ok (.getfield 15, 3) := by decide +kernel
theorem dX1_leanest_36 : decode cX1_leanest 36 = .ok (.iload_n 2, 1) := by decide +kernel
theorem dX1_leanest_37 : decode cX1_leanest 37 = .ok (.iaload, 1) := by decide +kernel
theorem dX1_leanest_38 : decode cX1_leanest 38 = .ok (.if_icmp .ge 5, 3) := by decide +kernel
theorem dX1_leanest_41 : decode cX1_leanest 41 = .ok (.iload_n 3, 1) := by decide +kernel
theorem dX1_leanest_42 : decode cX1_leanest 42 = .ok (.istore_n 2, 1) := by decide +kernel
theorem dX1_leanest_43 : decode cX1_leanest 43 = .ok (.iinc 3 1, 3) := by decide +kernel
theorem dX1_leanest_46 : decode cX1_leanest 46 = .ok (.goto (-42), 3) := by decide +kernel
theorem dX1_leanest_49 : decode cX1_leanest 49 = .ok (.iload_n 2, 1) := by decide +kernel
theorem dX1_leanest_50 : decode cX1_leanest 50 = .ok (.ireturn, 1) := by decide +kernel
theorem dX1_leastSaying_0 : decode cX1_leastSaying 0 = .ok (.iconst 0, 1) := by decide +kernel
theorem dX1_leastSaying_1 : decode cX1_leastSaying 1 = .ok (.istore_n 2, 1) := by decide +kernel
theorem dX1_leastSaying_2 : decode cX1_leastSaying 2 = .ok (.iload_n 2, 1) := by decide +kernel
theorem dX1_leastSaying_3 : decode cX1_leastSaying 3 = .ok (.aload_n 0, 1) := by decide +kernel
theorem dX1_leastSaying_4 : decode cX1_leastSaying 4 = .ok (.getfield 24, 3) := by decide +kernel
theorem dX1_leastSaying_7 : decode cX1_leastSaying 7 = .ok (.if_icmp .ge 21, 3) := by decide +kernel
theorem dX1_leastSaying_10 : decode cX1_leastSaying 10 = .ok (.aload_n 0, 1) := by decide +kernel
theorem dX1_leastSaying_11 : decode cX1_leastSaying 11 = .ok (.getfield 21, 3) := by decide +kernel
theorem dX1_leastSaying_14 : decode cX1_leastSaying 14 = .ok (.iload_n 2, 1) := by decide +kernel
theorem dX1_leastSaying_15 : decode cX1_leastSaying 15 = .ok (.iaload, 1) := by decide +kernel
theorem dX1_leastSaying_16 : decode cX1_leastSaying 16 = .ok (.iload_n 1, 1) := by decide +kernel
theorem dX1_leastSaying_17 : decode cX1_leastSaying 17 = .ok (.if_icmp .ne 5, 3) := by decide +kernel
theorem dX1_leastSaying_20 : decode cX1_leastSaying 20 = .ok (.iload_n 2, 1) := by decide +kernel
theorem dX1_leastSaying_21 : decode cX1_leastSaying 21 = .ok (.ireturn, 1) := by decide +kernel
theorem dX1_leastSaying_22 : decode cX1_leastSaying 22 = .ok (.iinc 2 1, 3) := by decide +kernel
theorem dX1_leastSaying_25 : decode cX1_leastSaying 25 = .ok (.goto (-23), 3) := by decide +kernel
theorem dX1_leastSaying_28 : decode cX1_leastSaying 28 = .ok (.iconst (-1), 1) := by decide +kernel
theorem dX1_leastSaying_29 : decode cX1_leastSaying 29 = .ok (.ireturn, 1) := by decide +kernel
theorem dX1_meaning_0 : decode cX1_meaning 0 = .ok (.iconst 0, 1) := by decide +kernel
theorem dX1_meaning_1 : decode cX1_meaning 1 = .ok (.istore_n 2, 1) := by decide +kernel
theorem dX1_meaning_2 : decode cX1_meaning 2 = .ok (.iload_n 2, 1) := by decide +kernel
theorem dX1_meaning_3 : decode cX1_meaning 3 = .ok (.aload_n 0, 1) := by decide +kernel
theorem dX1_meaning_4 : decode cX1_meaning 4 = .ok (.getfield 24, 3) := by decide +kernel
theorem dX1_meaning_7 : decode cX1_meaning 7 = .ok (.if_icmp .ge 26, 3) := by decide +kernel
theorem dX1_meaning_10 : decode cX1_meaning 10 = .ok (.aload_n 0, 1) := by decide +kernel
theorem dX1_meaning_11 : decode cX1_meaning 11 = .ok (.getfield 18, 3) := by decide +kernel
theorem dX1_meaning_14 : decode cX1_meaning 14 = .ok (.iload_n 2, 1) := by decide +kernel
theorem dX1_meaning_15 : decode cX1_meaning 15 = .ok (.iaload, 1) := by decide +kernel
theorem dX1_meaning_16 : decode cX1_meaning 16 = .ok (.iload_n 1, 1) := by decide +kernel
theorem dX1_meaning_17 : decode cX1_meaning 17 = .ok (.if_icmp .ne 10, 3) := by decide +kernel
theorem dX1_meaning_20 : decode cX1_meaning 20 = .ok (.aload_n 0, 1) := by decide +kernel
theorem dX1_meaning_21 : decode cX1_meaning 21 = .ok (.getfield 21, 3) := by decide +kernel
theorem dX1_meaning_24 : decode cX1_meaning 24 = .ok (.iload_n 2, 1) := by decide +kernel
theorem dX1_meaning_25 : decode cX1_meaning 25 = .ok (.iaload, 1) := by decide +kernel
theorem dX1_meaning_26 : decode cX1_meaning 26 = .ok (.ireturn, 1) := by decide +kernel
theorem dX1_meaning_27 : decode cX1_meaning 27 = .ok (.iinc 2 1, 3) := by decide +kernel
theorem dX1_meaning_30 : decode cX1_meaning 30 = .ok (.goto (-28), 3) := by decide +kernel
theorem dX1_meaning_33 : decode cX1_meaning 33 = .ok (.bipush (-9), 2) := by decide +kernel
theorem dX1_meaning_35 : decode cX1_meaning 35 = .ok (.ireturn, 1) := by decide +kernel
theorem dX1_smokeOfAll_0 : decode cX1_smokeOfAll 0 = .ok (.iconst 0, 1) := by decide +kernel
theorem dX1_smokeOfAll_1 : decode cX1_smokeOfAll 1 = .ok (.istore_n 2, 1) := by decide +kernel
theorem dX1_smokeOfAll_2 : decode cX1_smokeOfAll 2 = .ok (.iconst 0, 1) := by decide +kernel
theorem dX1_smokeOfAll_3 : decode cX1_smokeOfAll 3 = .ok (.istore_n 3, 1) := by decide +kernel
theorem dX1_smokeOfAll_4 : decode cX1_smokeOfAll 4 = .ok (.iload_n 3, 1) := by decide +kernel
theorem dX1_smokeOfAll_5 : decode cX1_smokeOfAll 5 = .ok (.aload_n 0, 1) := by decide +kernel
theorem dX1_smokeOfAll_6 : decode cX1_smokeOfAll 6 = .ok (.getfield 24, 3) := by decide +kernel
theorem dX1_smokeOfAll_9 : decode cX1_smokeOfAll 9 = .ok (.if_icmp .ge 26, 3) := by decide +kernel
theorem dX1_smokeOfAll_12 : decode cX1_smokeOfAll 12 = .ok (.iload_n 1, 1) := by decide +kernel
theorem dX1_smokeOfAll_13 : decode cX1_smokeOfAll 13 = .ok (.iload_n 3, 1) := by decide +kernel
theorem dX1_smokeOfAll_14 : decode cX1_smokeOfAll 14 = .ok (.invokestatic 36, 3) := by decide +kernel
theorem dX1_smokeOfAll_17 : decode cX1_smokeOfAll 17 = .ok (.ifCond .eq 12, 3) := by decide +kernel
theorem dX1_smokeOfAll_20 : decode cX1_smokeOfAll 20 = .ok (.iload_n 2, 1) := by decide +kernel
theorem dX1_smokeOfAll_21 : decode cX1_smokeOfAll 21 = .ok (.aload_n 0, 1) := by decide +kernel
theorem dX1_smokeOfAll_22 : decode cX1_smokeOfAll 22 = .ok (.getfield 18, 3) := by decide +kernel
theorem dX1_smokeOfAll_25 : decode cX1_smokeOfAll 25 = .ok (.iload_n 3, 1) := by decide +kernel
theorem dX1_smokeOfAll_26 : decode cX1_smokeOfAll 26 = .ok (.iaload, 1) := by decide +kernel
theorem dX1_smokeOfAll_27 : decode cX1_smokeOfAll 27 = .ok (.ior, 1) := by decide +kernel
theorem dX1_smokeOfAll_28 : decode cX1_smokeOfAll 28 = .ok (.istore_n 2, 1) := by decide +kernel
theorem dX1_smokeOfAll_29 : decode cX1_smokeOfAll 29 = .ok (.iinc 3 1, 3) := by decide +kernel
theorem dX1_smokeOfAll_32 : decode cX1_smokeOfAll 32 = .ok (.goto (-28), 3) := by decide +kernel
theorem dX1_smokeOfAll_35 : decode cX1_smokeOfAll 35 = .ok (.iload_n 2, 1) := by decide +kernel
theorem dX1_smokeOfAll_36 : decode cX1_smokeOfAll 36 = .ok (.ireturn, 1) := by decide +kernel
theorem dX1_anySays_0 : decode cX1_anySays 0 = .ok (.iconst 0, 1) := by decide +kernel
theorem dX1_anySays_1 : decode cX1_anySays 1 = .ok (.istore_n 3, 1) := by decide +kernel
theorem dX1_anySays_2 : decode cX1_anySays 2 = .ok (.iload_n 3, 1) := by decide +kernel
theorem dX1_anySays_3 : decode cX1_anySays 3 = .ok (.aload_n 0, 1) := by decide +kernel
theorem dX1_anySays_4 : decode cX1_anySays 4 = .ok (.getfield 24, 3) := by decide +kernel
theorem dX1_anySays_7 : decode cX1_anySays 7 = .ok (.if_icmp .ge 29, 3) := by decide +kernel
theorem dX1_anySays_10 : decode cX1_anySays 10 = .ok (.iload_n 1, 1) := by decide +kernel
theorem dX1_anySays_11 : decode cX1_anySays 11 = .ok (.iload_n 3, 1) := by decide +kernel
theorem dX1_anySays_12 : decode cX1_anySays 12 = .ok (.invokestatic 36, 3) := by decide +kernel
theorem dX1_anySays_15 : decode cX1_anySays 15 = .ok (.ifCond .eq 15, 3) := by decide +kernel
theorem dX1_anySays_18 : decode cX1_anySays 18 = .ok (.aload_n 0, 1) := by decide +kernel
theorem dX1_anySays_19 : decode cX1_anySays 19 = .ok (.getfield 21, 3) := by decide +kernel
theorem dX1_anySays_22 : decode cX1_anySays 22 = .ok (.iload_n 3, 1) := by decide +kernel
theorem dX1_anySays_23 : decode cX1_anySays 23 = .ok (.iaload, 1) := by decide +kernel
theorem dX1_anySays_24 : decode cX1_anySays 24 = .ok (.iload_n 2, 1) := by decide +kernel
theorem dX1_anySays_25 : decode cX1_anySays 25 = .ok (.if_icmp .ne 5, 3) := by decide +kernel
theorem dX1_anySays_28 : decode cX1_anySays 28 = .ok (.iconst 1, 1) := by decide +kernel
theorem dX1_anySays_29 : decode cX1_anySays 29 = .ok (.ireturn, 1) := by decide +kernel
theorem dX1_anySays_30 : decode cX1_anySays 30 = .ok (.iinc 3 1, 3) := by decide +kernel
theorem dX1_anySays_33 : decode cX1_anySays 33 = .ok (.goto (-31), 3) := by decide +kernel
theorem dX1_anySays_36 : decode cX1_anySays 36 = .ok (.iconst 0, 1) := by decide +kernel
theorem dX1_anySays_37 : decode cX1_anySays 37 = .ok (.ireturn, 1) := by decide +kernel
theorem dX1_tellsApart_0 : decode cX1_tellsApart 0 = .ok (.iload_n 2, 1) := by decide +kernel
theorem dX1_tellsApart_1 : decode cX1_tellsApart 1 = .ok (.istore 4, 2) := by decide +kernel
theorem dX1_tellsApart_3 : decode cX1_tellsApart 3 = .ok (.iconst 0, 1) := by decide +kernel
theorem dX1_tellsApart_4 : decode cX1_tellsApart 4 = .ok (.istore 5, 2) := by decide +kernel
theorem dX1_tellsApart_6 : decode cX1_tellsApart 6 = .ok (.iload 5, 2) := by decide +kernel
theorem dX1_tellsApart_8 : decode cX1_tellsApart 8 = .ok (.aload_n 0, 1) := by decide +kernel
theorem dX1_tellsApart_9 : decode cX1_tellsApart 9 = .ok (.getfield 24, 3) := by decide +kernel
theorem dX1_tellsApart_12 : decode cX1_tellsApart 12 = .ok (.if_icmp .ge 65, 3) := by decide +kernel
theorem dX1_tellsApart_15 : decode cX1_tellsApart 15 = .ok (.iload_n 1, 1) := by decide +kernel
theorem dX1_tellsApart_16 : decode cX1_tellsApart 16 = .ok (.iload 5, 2) := by decide +kernel
theorem dX1_tellsApart_18 : decode cX1_tellsApart 18 = .ok (.invokestatic 36, 3) := by decide +kernel
theorem dX1_tellsApart_21 : decode cX1_tellsApart 21 = .ok (.ifCond .ne 6, 3) := by decide +kernel
theorem dX1_tellsApart_24 : decode cX1_tellsApart 24 = .ok (.goto 47, 3) := by decide +kernel
theorem dX1_tellsApart_27 : decode cX1_tellsApart 27 = .ok (.iload 4, 2) := by decide +kernel
theorem dX1_tellsApart_29 : decode cX1_tellsApart 29 = .ok (.aload_n 0, 1) := by decide +kernel
theorem dX1_tellsApart_30 : decode cX1_tellsApart 30 = .ok (.getfield 21, 3) := by decide +kernel
theorem dX1_tellsApart_33 : decode cX1_tellsApart 33 = .ok (.iload 5, 2) := by decide +kernel
