theorem dX0_init_0 : decode cX0_init 0 = .ok (.aload_n 0, 1) := by decide +kernel
theorem dX0_init_1 : decode cX0_init 1 = .ok (.invokespecial 3, 3) := by decide +kernel
theorem dX0_init_4 : decode cX0_init 4 = .ok (.aload_n 0, 1) := by decide +kernel
theorem dX0_init_5 : decode cX0_init 5 = .ok (.bipush 8, 2) := by decide +kernel
theorem dX0_init_7 : decode cX0_init 7 = .ok (.newarray .long, 2) := by decide +kernel
theorem dX0_init_9 : decode cX0_init 9 = .ok (.putfield 9, 3) := by decide +kernel
theorem dX0_init_12 : decode cX0_init 12 = .ok (.aload_n 0, 1) := by decide +kernel
theorem dX0_init_13 : decode cX0_init 13 = .ok (.bipush 8, 2) := by decide +kernel
theorem dX0_init_15 : decode cX0_init 15 = .ok (.newarray .long, 2) := by decide +kernel
theorem dX0_init_17 : decode cX0_init 17 = .ok (.putfield 15, 3) := by decide +kernel
theorem dX0_init_20 : decode cX0_init 20 = .ok (.return_, 1) := by decide +kernel
theorem dX0_begin_0 : decode cX0_begin 0 = .ok (.iconst 0, 1) := by decide +kernel
theorem dX0_begin_1 : decode cX0_begin 1 = .ok (.istore_n 2, 1) := by decide +kernel
theorem dX0_begin_2 : decode cX0_begin 2 = .ok (.iload_n 2, 1) := by decide +kernel
theorem dX0_begin_3 : decode cX0_begin 3 = .ok (.bipush 8, 2) := by decide +kernel
theorem dX0_begin_5 : decode cX0_begin 5 = .ok (.if_icmp .ge 25, 3) := by decide +kernel
theorem dX0_begin_8 : decode cX0_begin 8 = .ok (.aload_n 0, 1) := by decide +kernel
theorem dX0_begin_9 : decode cX0_begin 9 = .ok (.getfield 9, 3) := by decide +kernel
theorem dX0_begin_12 : decode cX0_begin 12 = .ok (.iload_n 2, 1) := by decide +kernel
theorem dX0_begin_13 : decode cX0_begin 13 = .ok (.iload_n 2, 1) := by decide +kernel
theorem dX0_begin_14 : decode cX0_begin 14 = .ok (.iload_n 1, 1) := by decide +kernel
theorem dX0_begin_15 : decode cX0_begin 15 = .ok (.if_icmp .ne 7, 3) := by decide +kernel
theorem dX0_begin_18 : decode cX0_begin 18 = .ok (.lconst 1, 1) := by decide +kernel
theorem dX0_begin_19 : decode cX0_begin 19 = .ok (.goto 4, 3) := by decide +kernel
theorem dX0_begin_22 : decode cX0_begin 22 = .ok (.lconst 0, 1) := by decide +kernel
theorem dX0_begin_23 : decode cX0_begin 23 = .ok (.lastore, 1) := by decide +kernel
theorem dX0_begin_24 : decode cX0_begin 24 = .ok (.iinc 2 1, 3) := by decide +kernel
theorem dX0_begin_27 : decode cX0_begin 27 = .ok (.goto (-25), 3) := by decide +kernel
theorem dX0_begin_30 : decode cX0_begin 30 = .ok (.return_, 1) := by decide +kernel
set_option maxRecDepth 20000 in
theorem ggX0_read_X1_meaning : GoodIn wsX0_read wsX1_meaning := goodIn_r _ [8, 9, 10, 11, 27, 28, 29, 30, 31] (by decide +kernel) (by decide +kernel)
set_option maxRecDepth 20000 in
theorem gX0_read_X1_meaning : GoodIn wsX0_read (wsV RX0 18 RX1 yX1_meaning wsX1_meaning) := goodIn_app (goodIn_of _ (by decide +kernel)) ggX0_read_X1_meaning
set_option maxRecDepth 20000 in
theorem ggX0_read_X6_isWord : GoodIn wsX0_read wsX6_isWord := goodIn_r _ [14] (by decide +kernel) (by decide +kernel)
set_option maxRecDepth 20000 in
theorem gX0_read_X6_isWord_n24 : GoodIn wsX0_read (wsX6_isWord) := ggX0_read_X6_isWord
set_option maxRecDepth 20000 in
theorem ggX0_read_X1_leastSaying : GoodIn wsX0_read wsX1_leastSaying := goodIn_r _ [18, 9, 11, 27, 28, 29, 30, 31] (by decide +kernel) (by decide +kernel)
set_option maxRecDepth 20000 in
theorem gX0_read_X1_leastSaying : GoodIn wsX0_read (wsV RX0 28 RX1 yX1_leastSaying wsX1_leastSaying) := goodIn_app (goodIn_of _ (by decide +kernel)) ggX0_read_X1_leastSaying
set_option maxRecDepth 20000 in
theorem ggX0_read_X3_thousandths : GoodIn wsX0_read wsX3_thousandths := goodIn_r _ [23, 24, 32, 33, 34, 35, 36, 37, 38, 39] (by decide +kernel) (by decide +kernel)
set_option maxRecDepth 20000 in
theorem gX0_read_X3_thousandths : GoodIn wsX0_read (wsV RX0 35 RX3 yX3_thousandths wsX3_thousandths) := goodIn_app (goodIn_of _ (by decide +kernel)) ggX0_read_X3_thousandths
theorem dX0_read_0 : decode cX0_read 0 = .ok (.iconst 0, 1) := by decide +kernel
theorem dX0_read_1 : decode cX0_read 1 = .ok (.istore_n 3, 1) := by decide +kernel
theorem dX0_read_2 : decode cX0_read 2 = .ok (.iload_n 3, 1) := by decide +kernel
theorem dX0_read_3 : decode cX0_read 3 = .ok (.bipush 8, 2) := by decide +kernel
theorem dX0_read_5 : decode cX0_read 5 = .ok (.if_icmp .ge 16, 3) := by decide +kernel
theorem dX0_read_8 : decode cX0_read 8 = .ok (.aload_n 0, 1) := by decide +kernel
theorem dX0_read_9 : decode cX0_read 9 = .ok (.getfield 15, 3) := by decide +kernel
theorem dX0_read_12 : decode cX0_read 12 = .ok (.iload_n 3, 1) := by decide +kernel
theorem dX0_read_13 : decode cX0_read 13 = .ok (.lconst 0, 1) := by decide +kernel
theorem dX0_read_14 : decode cX0_read 14 = .ok (.lastore, 1) := by decide +kernel
theorem dX0_read_15 : decode cX0_read 15 = .ok (.iinc 3 1, 3) := by decide +kernel
theorem dX0_read_18 : decode cX0_read 18 = .ok (.goto (-16), 3) := by decide +kernel
theorem dX0_read_21 : decode cX0_read 21 = .ok (.iconst 0, 1) := by decide +kernel
theorem dX0_read_22 : decode cX0_read 22 = .ok (.istore_n 3, 1) := by decide +kernel
theorem dX0_read_23 : decode cX0_read 23 = .ok (.iload_n 3, 1) := by decide +kernel
theorem dX0_read_24 : decode cX0_read 24 = .ok (.bipush 8, 2) := by decide +kernel
theorem dX0_read_26 : decode cX0_read 26 = .ok (.if_icmp .ge 88, 3) := by decide +kernel
theorem dX0_read_29 : decode cX0_read 29 = .ok (.aload_n 1, 1) := by decide +kernel
theorem dX0_read_30 : decode cX0_read 30 = .ok (.iload_n 3, 1) := by decide +kernel
theorem dX0_read_31 : decode cX0_read 31 = .ok (.invokevirtual 18, 3) := by decide +kernel
theorem dX0_read_34 : decode cX0_read 34 = .ok (.istore 4, 2) := by decide +kernel
theorem dX0_read_36 : decode cX0_read 36 = .ok (.iload 4, 2) := by decide +kernel
theorem dX0_read_38 : decode cX0_read 38 = .ok (.invokestatic 24, 3) := by decide +kernel
theorem dX0_read_41 : decode cX0_read 41 = .ok (.ifCond .ne 6, 3) := by decide +kernel
theorem dX0_read_44 : decode cX0_read 44 = .ok (.goto 64, 3) := by decide +kernel
theorem dX0_read_47 : decode cX0_read 47 = .ok (.iconst 0, 1) := by decide +kernel
theorem dX0_read_48 : decode cX0_read 48 = .ok (.istore 5, 2) := by decide +kernel
theorem dX0_read_50 : decode cX0_read 50 = .ok (.iload 5, 2) := by decide +kernel
theorem dX0_read_52 : decode cX0_read 52 = .ok (.bipush 8, 2) := by decide +kernel
theorem dX0_read_54 : decode cX0_read 54 = .ok (.if_icmp .ge 54, 3) := by decide +kernel
theorem dX0_read_57 : decode cX0_read 57 = .ok (.aload_n 1, 1) := by decide +kernel
theorem dX0_read_58 : decode cX0_read 58 = .ok (.iload 5, 2) := by decide +kernel
theorem dX0_read_60 : decode cX0_read 60 = .ok (.invokevirtual 28, 3) := by decide +kernel
theorem dX0_read_63 : decode cX0_read 63 = .ok (.istore 6, 2) := by decide +kernel
theorem dX0_read_65 : decode cX0_read 65 = .ok (.iload 6, 2) := by decide +kernel
theorem dX0_read_67 : decode cX0_read 67 = .ok (.iconst (-1), 1) := by decide +kernel
theorem dX0_read_68 : decode cX0_read 68 = .ok (.if_icmp .eq 34, 3) := by decide +kernel
theorem dX0_read_71 : decode cX0_read 71 = .ok (.aload_n 0, 1) := by decide +kernel
theorem dX0_read_72 : decode cX0_read 72 = .ok (.getfield 15, 3) := by decide +kernel
theorem dX0_read_75 : decode cX0_read 75 = .ok (.iload 4, 2) := by decide +kernel
theorem dX0_read_77 : decode cX0_read 77 = .ok (.dup2, 1) := by decide +kernel
theorem dX0_read_78 : decode cX0_read 78 = .ok (.laload, 1) := by decide +kernel
theorem dX0_read_79 : decode cX0_read 79 = .ok (.aload_n 0, 1) := by decide +kernel
theorem dX0_read_80 : decode cX0_read 80 = .ok (.getfield 9, 3) := by decide +kernel
theorem dX0_read_83 : decode cX0_read 83 = .ok (.iload 5, 2) := by decide +kernel
theorem dX0_read_85 : decode cX0_read 85 = .ok (.laload, 1) := by decide +kernel
theorem dX0_read_86 : decode cX0_read 86 = .ok (.aload_n 2, 1) := by decide +kernel
theorem dX0_read_87 : decode cX0_read 87 = .ok (.aload_n 1, 1) := by decide +kernel
theorem dX0_read_88 : decode cX0_read 88 = .ok (.getfield 31, 3) := by decide +kernel
theorem dX0_read_91 : decode cX0_read 91 = .ok (.iload 6, 2) := by decide +kernel
theorem dX0_read_93 : decode cX0_read 93 = .ok (.iaload, 1) := by decide +kernel
theorem dX0_read_94 : decode cX0_read 94 = .ok (.iload_n 3, 1) := by decide +kernel
theorem dX0_read_95 : decode cX0_read 95 = .ok (.invokevirtual 35, 3) := by decide +kernel
theorem dX0_read_98 : decode cX0_read 98 = .ok (.i2l, 1) := by decide +kernel
theorem dX0_read_99 : decode cX0_read 99 = .ok (.lmul, 1) := by decide +kernel
theorem dX0_read_100 : decode cX0_read 100 = .ok (.ladd, 1) := by decide +kernel
theorem dX0_read_101 : decode cX0_read 101 = .ok (.lastore, 1) := by decide +kernel
theorem dX0_read_102 : decode cX0_read 102 = .ok (.iinc 5 1, 3) := by decide +kernel
theorem dX0_read_105 : decode cX0_read 105 = .ok (.goto (-55), 3) := by decide +kernel
theorem dX0_read_108 : decode cX0_read 108 = .ok (.iinc 3 1, 3) := by decide +kernel
theorem dX0_read_111 : decode cX0_read 111 = .ok (.goto (-88), 3) := by decide +kernel
theorem dX0_read_114 : decode cX0_read 114 = .ok (.iconst 0, 1) := by decide +kernel
theorem dX0_read_115 : decode cX0_read 115 = .ok (.istore_n 3, 1) := by decide +kernel
theorem dX0_read_116 : decode cX0_read 116 = .ok (.iload_n 3, 1) := by decide +kernel
theorem dX0_read_117 : decode cX0_read 117 = .ok (.bipush 8, 2) := by decide +kernel
theorem dX0_read_119 : decode cX0_read 119 = .ok (.if_icmp .ge 21, 3) := by decide +kernel
theorem dX0_read_122 : decode cX0_read 122 = .ok (.aload_n 0, 1) := by decide +kernel
theorem dX0_read_123 : decode cX0_read 123 = .ok (.getfield 9, 3) := by decide +kernel
theorem dX0_read_126 : decode cX0_read 126 = .ok (.iload_n 3, 1) := by decide +kernel
theorem dX0_read_127 : decode cX0_read 127 = .ok (.aload_n 0, 1) := by decide +kernel
theorem dX0_read_128 : decode cX0_read 128 = .ok (.getfield 15, 3) := by decide +kernel
theorem dX0_read_131 : decode cX0_read 131 = .ok (.iload_n 3, 1) := by decide +kernel
theorem dX0_read_132 : decode cX0_read 132 = .ok (.laload, 1) := by decide +kernel
theorem dX0_read_133 : decode cX0_read 133 = .ok (.lastore, 1) := by decide +kernel
theorem dX0_read_134 : decode cX0_read 134 = .ok (.iinc 3 1, 3) := by decide +kernel
theorem dX0_read_137 : decode cX0_read 137 = .ok (.goto (-21), 3) := by decide +kernel
theorem dX0_read_140 : decode cX0_read 140 = .ok (.return_, 1) := by decide +kernel
