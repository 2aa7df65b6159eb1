theorem dX3_rise_4 : decode cX3_rise 4 = .ok (.bipush 20, 2) := by decide +kernel
theorem dX3_rise_6 : decode cX3_rise 6 = .ok (.if_icmp .lt 4, 3) := by decide +kernel
theorem dX3_rise_9 : decode cX3_rise 9 = .ok (.return_, 1) := by decide +kernel
theorem dX3_rise_10 : decode cX3_rise 10 = .ok (.aload_n 0, 1) := by decide +kernel
theorem dX3_rise_11 : decode cX3_rise 11 = .ok (.getfield 15, 3) := by decide +kernel
theorem dX3_rise_14 : decode cX3_rise 14 = .ok (.aload_n 0, 1) := by decide +kernel
theorem dX3_rise_15 : decode cX3_rise 15 = .ok (.getfield 25, 3) := by decide +kernel
theorem dX3_rise_18 : decode cX3_rise 18 = .ok (.iload_n 1, 1) := by decide +kernel
theorem dX3_rise_19 : decode cX3_rise 19 = .ok (.iastore, 1) := by decide +kernel
theorem dX3_rise_20 : decode cX3_rise 20 = .ok (.aload_n 0, 1) := by decide +kernel
theorem dX3_rise_21 : decode cX3_rise 21 = .ok (.getfield 18, 3) := by decide +kernel
theorem dX3_rise_24 : decode cX3_rise 24 = .ok (.aload_n 0, 1) := by decide +kernel
theorem dX3_rise_25 : decode cX3_rise 25 = .ok (.getfield 25, 3) := by decide +kernel
theorem dX3_rise_28 : decode cX3_rise 28 = .ok (.iload_n 2, 1) := by decide +kernel
theorem dX3_rise_29 : decode cX3_rise 29 = .ok (.iastore, 1) := by decide +kernel
theorem dX3_rise_30 : decode cX3_rise 30 = .ok (.aload_n 0, 1) := by decide +kernel
theorem dX3_rise_31 : decode cX3_rise 31 = .ok (.dup, 1) := by decide +kernel
theorem dX3_rise_32 : decode cX3_rise 32 = .ok (.getfield 25, 3) := by decide +kernel
theorem dX3_rise_35 : decode cX3_rise 35 = .ok (.iconst 1, 1) := by decide +kernel
theorem dX3_rise_36 : decode cX3_rise 36 = .ok (.iadd, 1) := by decide +kernel
theorem dX3_rise_37 : decode cX3_rise 37 = .ok (.putfield 25, 3) := by decide +kernel
theorem dX3_rise_40 : decode cX3_rise 40 = .ok (.return_, 1) := by decide +kernel
theorem dX3_thousandths_0 : decode cX3_thousandths 0 = .ok (.iconst 1, 1) := by decide +kernel
theorem dX3_thousandths_1 : decode cX3_thousandths 1 = .ok (.istore_n 3, 1) := by decide +kernel
theorem dX3_thousandths_2 : decode cX3_thousandths 2 = .ok (.iconst 0, 1) := by decide +kernel
theorem dX3_thousandths_3 : decode cX3_thousandths 3 = .ok (.istore 4, 2) := by decide +kernel
theorem dX3_thousandths_5 : decode cX3_thousandths 5 = .ok (.iload 4, 2) := by decide +kernel
theorem dX3_thousandths_7 : decode cX3_thousandths 7 = .ok (.iconst 3, 1) := by decide +kernel
theorem dX3_thousandths_8 : decode cX3_thousandths 8 = .ok (.if_icmp .ge 49, 3) := by decide +kernel
theorem dX3_thousandths_11 : decode cX3_thousandths 11 = .ok (.iload_n 1, 1) := by decide +kernel
theorem dX3_thousandths_12 : decode cX3_thousandths 12 = .ok (.iload_n 2, 1) := by decide +kernel
theorem dX3_thousandths_13 : decode cX3_thousandths 13 = .ok (.ixor, 1) := by decide +kernel
theorem dX3_thousandths_14 : decode cX3_thousandths 14 = .ok (.iload 4, 2) := by decide +kernel
theorem dX3_thousandths_16 : decode cX3_thousandths 16 = .ok (.ishr, 1) := by decide +kernel
theorem dX3_thousandths_17 : decode cX3_thousandths 17 = .ok (.iconst 1, 1) := by decide +kernel
theorem dX3_thousandths_18 : decode cX3_thousandths 18 = .ok (.iand, 1) := by decide +kernel
theorem dX3_thousandths_19 : decode cX3_thousandths 19 = .ok (.ifCond .eq 7, 3) := by decide +kernel
theorem dX3_thousandths_22 : decode cX3_thousandths 22 = .ok (.iconst 1, 1) := by decide +kernel
theorem dX3_thousandths_23 : decode cX3_thousandths 23 = .ok (.goto 4, 3) := by decide +kernel
theorem dX3_thousandths_26 : decode cX3_thousandths 26 = .ok (.iconst 0, 1) := by decide +kernel
theorem dX3_thousandths_27 : decode cX3_thousandths 27 = .ok (.istore 5, 2) := by decide +kernel
theorem dX3_thousandths_29 : decode cX3_thousandths 29 = .ok (.iload_n 3, 1) := by decide +kernel
theorem dX3_thousandths_30 : decode cX3_thousandths 30 = .ok (.iload 5, 2) := by decide +kernel
theorem dX3_thousandths_32 : decode cX3_thousandths 32 = .ok (.ifCond .eq 10, 3) := by decide +kernel
theorem dX3_thousandths_35 : decode cX3_thousandths 35 = .ok (.aload_n 0, 1) := by decide +kernel
theorem dX3_thousandths_36 : decode cX3_thousandths 36 = .ok (.getfield 28, 3) := by decide +kernel
theorem dX3_thousandths_39 : decode cX3_thousandths 39 = .ok (.goto 10, 3) := by decide +kernel
theorem dX3_thousandths_42 : decode cX3_thousandths 42 = .ok (.bipush 10, 2) := by decide +kernel
theorem dX3_thousandths_44 : decode cX3_thousandths 44 = .ok (.aload_n 0, 1) := by decide +kernel
theorem dX3_thousandths_45 : decode cX3_thousandths 45 = .ok (.getfield 28, 3) := by decide +kernel
theorem dX3_thousandths_48 : decode cX3_thousandths 48 = .ok (.isub, 1) := by decide +kernel
theorem dX3_thousandths_49 : decode cX3_thousandths 49 = .ok (.imul, 1) := by decide +kernel
theorem dX3_thousandths_50 : decode cX3_thousandths 50 = .ok (.istore_n 3, 1) := by decide +kernel
theorem dX3_thousandths_51 : decode cX3_thousandths 51 = .ok (.iinc 4 1, 3) := by decide +kernel
theorem dX3_thousandths_54 : decode cX3_thousandths 54 = .ok (.goto (-49), 3) := by decide +kernel
theorem dX3_thousandths_57 : decode cX3_thousandths 57 = .ok (.iload_n 3, 1) := by decide +kernel
theorem dX3_thousandths_58 : decode cX3_thousandths 58 = .ok (.ireturn, 1) := by decide +kernel
theorem dX3_draw_0 : decode cX3_draw 0 = .ok (.aload_n 0, 1) := by decide +kernel
theorem dX3_draw_1 : decode cX3_draw 1 = .ok (.aload_n 0, 1) := by decide +kernel
theorem dX3_draw_2 : decode cX3_draw 2 = .ok (.getfield 31, 3) := by decide +kernel
theorem dX3_draw_5 : decode cX3_draw 5 = .ok (.ldc 42, 2) := by decide +kernel
theorem dX3_draw_7 : decode cX3_draw 7 = .ok (.imul, 1) := by decide +kernel
theorem dX3_draw_8 : decode cX3_draw 8 = .ok (.sipush 12345, 3) := by decide +kernel
theorem dX3_draw_11 : decode cX3_draw 11 = .ok (.iadd, 1) := by decide +kernel
theorem dX3_draw_12 : decode cX3_draw 12 = .ok (.putfield 31, 3) := by decide +kernel
theorem dX3_draw_15 : decode cX3_draw 15 = .ok (.aload_n 0, 1) := by decide +kernel
theorem dX3_draw_16 : decode cX3_draw 16 = .ok (.getfield 31, 3) := by decide +kernel
theorem dX3_draw_19 : decode cX3_draw 19 = .ok (.bipush 16, 2) := by decide +kernel
theorem dX3_draw_21 : decode cX3_draw 21 = .ok (.iushr, 1) := by decide +kernel
theorem dX3_draw_22 : decode cX3_draw 22 = .ok (.bipush 10, 2) := by decide +kernel
theorem dX3_draw_24 : decode cX3_draw 24 = .ok (.irem, 1) := by decide +kernel
theorem dX3_draw_25 : decode cX3_draw 25 = .ok (.ireturn, 1) := by decide +kernel
theorem dX4_init_0 : decode cX4_init 0 = .ok (.aload_n 0, 1) := by decide +kernel
theorem dX4_init_1 : decode cX4_init 1 = .ok (.invokespecial 3, 3) := by decide +kernel
theorem dX4_init_4 : decode cX4_init 4 = .ok (.aload_n 0, 1) := by decide +kernel
theorem dX4_init_5 : decode cX4_init 5 = .ok (.new 9, 3) := by decide +kernel
theorem dX4_init_8 : decode cX4_init 8 = .ok (.dup, 1) := by decide +kernel
theorem dX4_init_9 : decode cX4_init 9 = .ok (.invokespecial 11, 3) := by decide +kernel
theorem dX4_init_12 : decode cX4_init 12 = .ok (.putfield 12, 3) := by decide +kernel
theorem dX4_init_15 : decode cX4_init 15 = .ok (.aload_n 0, 1) := by decide +kernel
theorem dX4_init_16 : decode cX4_init 16 = .ok (.new 18, 3) := by decide +kernel
theorem dX4_init_19 : decode cX4_init 19 = .ok (.dup, 1) := by decide +kernel
theorem dX4_init_20 : decode cX4_init 20 = .ok (.invokespecial 20, 3) := by decide +kernel
theorem dX4_init_23 : decode cX4_init 23 = .ok (.putfield 21, 3) := by decide +kernel
theorem dX4_init_26 : decode cX4_init 26 = .ok (.aload_n 0, 1) := by decide +kernel
theorem dX4_init_27 : decode cX4_init 27 = .ok (.bipush 7, 2) := by decide +kernel
theorem dX4_init_29 : decode cX4_init 29 = .ok (.newarray .int, 2) := by decide +kernel
theorem dX4_init_31 : decode cX4_init 31 = .ok (.putfield 25, 3) := by decide +kernel
theorem dX4_init_34 : decode cX4_init 34 = .ok (.aload_n 0, 1) := by decide +kernel
theorem dX4_init_35 : decode cX4_init 35 = .ok (.iconst 0, 1) := by decide +kernel
theorem dX4_init_36 : decode cX4_init 36 = .ok (.putfield 29, 3) := by decide +kernel
theorem dX4_init_39 : decode cX4_init 39 = .ok (.return_, 1) := by decide +kernel
theorem dX4_readAll_0 : decode cX4_readAll 0 = .ok (.aload_n 0, 1) := by decide +kernel
theorem dX4_readAll_1 : decode cX4_readAll 1 = .ok (.getfield 12, 3) := by decide +kernel
theorem dX4_readAll_4 : decode cX4_readAll 4 = .ok (.iconst 0, 1) := by decide +kernel
theorem dX4_readAll_5 : decode cX4_readAll 5 = .ok (.putfield 33, 3) := by decide +kernel
theorem dX4_readAll_8 : decode cX4_readAll 8 = .ok (.aload_n 0, 1) := by decide +kernel
theorem dX4_readAll_9 : decode cX4_readAll 9 = .ok (.getfield 21, 3) := by decide +kernel
theorem dX4_readAll_12 : decode cX4_readAll 12 = .ok (.iconst 0, 1) := by decide +kernel
theorem dX4_readAll_13 : decode cX4_readAll 13 = .ok (.putfield 37, 3) := by decide +kernel
theorem dX4_readAll_16 : decode cX4_readAll 16 = .ok (.aload_n 0, 1) := by decide +kernel
theorem dX4_readAll_17 : decode cX4_readAll 17 = .ok (.getfield 21, 3) := by decide +kernel
theorem dX4_readAll_20 : decode cX4_readAll 20 = .ok (.iconst 0, 1) := by decide +kernel
theorem dX4_readAll_21 : decode cX4_readAll 21 = .ok (.putfield 40, 3) := by decide +kernel
theorem dX4_readAll_24 : decode cX4_readAll 24 = .ok (.aload_n 0, 1) := by decide +kernel
theorem dX4_readAll_25 : decode cX4_readAll 25 = .ok (.getfield 21, 3) := by decide +kernel
theorem dX4_readAll_28 : decode cX4_readAll 28 = .ok (.iconst 0, 1) := by decide +kernel
theorem dX4_readAll_29 : decode cX4_readAll 29 = .ok (.putfield 43, 3) := by decide +kernel
theorem dX4_readAll_32 : decode cX4_readAll 32 = .ok (.aload_n 0, 1) := by decide +kernel
theorem dX4_readAll_33 : decode cX4_readAll 33 = .ok (.iconst 0, 1) := by decide +kernel
theorem dX4_readAll_34 : decode cX4_readAll 34 = .ok (.putfield 29, 3) := by decide +kernel
theorem dX4_readAll_37 : decode cX4_readAll 37 = .ok (.aload_n 1, 1) := by decide +kernel
theorem dX4_readAll_38 : decode cX4_readAll 38 = .ok (.invokevirtual 46, 3) := by decide +kernel
theorem dX4_readAll_41 : decode cX4_readAll 41 = .ok (.iconst 0, 1) := by decide +kernel
theorem dX4_readAll_42 : decode cX4_readAll 42 = .ok (.istore_n 2, 1) := by decide +kernel
theorem dX4_readAll_43 : decode cX4_readAll 43 = .ok (.iload_n 2, 1) := by decide +kernel
theorem dX4_readAll_44 : decode cX4_readAll 44 = .ok (.sipush 300, 3) := by decide +kernel
theorem dX4_readAll_47 : decode cX4_readAll 47 = .ok (.if_icmp .gt 28, 3) := by decide +kernel
theorem dX4_readAll_50 : decode cX4_readAll 50 = .ok (.aload_n 1, 1) := by decide +kernel
theorem dX4_readAll_51 : decode cX4_readAll 51 = .ok (.getfield 51, 3) := by decide +kernel
theorem dX4_readAll_54 : decode cX4_readAll 54 = .ok (.ifCond .ne 5, 3) := by decide +kernel
theorem dX4_readAll_57 : decode cX4_readAll 57 = .ok (.iload_n 2, 1) := by decide +kernel
theorem dX4_readAll_58 : decode cX4_readAll 58 = .ok (.ireturn, 1) := by decide +kernel
theorem dX4_readAll_59 : decode cX4_readAll 59 = .ok (.aload_n 0, 1) := by decide +kernel
theorem dX4_readAll_60 : decode cX4_readAll 60 = .ok (.aload_n 1, 1) := by decide +kernel
theorem dX4_readAll_61 : decode cX4_readAll 61 = .ok (.invokevirtual 54, 3) := by decide +kernel
theorem dX4_readAll_64 : decode cX4_readAll 64 = .ok (.ifCond .ne 5, 3) := by decide +kernel
theorem dX4_readAll_67 : decode cX4_readAll 67 = .ok (.iconst (-1), 1) := by decide +kernel
theorem dX4_readAll_68 : decode cX4_readAll 68 = .ok (.ireturn, 1) := by decide +kernel
theorem dX4_readAll_69 : decode cX4_readAll 69 = .ok (.iinc 2 1, 3) := by decide +kernel
theorem dX4_readAll_72 : decode cX4_readAll 72 = .ok (.goto (-29), 3) := by decide +kernel
theorem dX4_readAll_75 : decode cX4_readAll 75 = .ok (.iconst (-1), 1) := by decide +kernel
theorem dX4_readAll_76 : decode cX4_readAll 76 = .ok (.ireturn, 1) := by decide +kernel
theorem dX4_readItem_0 : decode cX4_readItem 0 = .ok (.aload_n 1, 1) := by decide +kernel
theorem dX4_readItem_1 : decode cX4_readItem 1 = .ok (.getfield 51, 3) := by decide +kernel
theorem dX4_readItem_4 : decode cX4_readItem 4 = .ok (.istore_n 2, 1) := by decide +kernel
theorem dX4_readItem_5 : decode cX4_readItem 5 = .ok (.aload_n 0, 1) := by decide +kernel
theorem dX4_readItem_6 : decode cX4_readItem 6 = .ok (.iload_n 2, 1) := by decide +kernel
theorem dX4_readItem_7 : decode cX4_readItem 7 = .ok (.invokevirtual 58, 3) := by decide +kernel
theorem dX4_readItem_10 : decode cX4_readItem 10 = .ok (.ifCond .ne 5, 3) := by decide +kernel
theorem dX4_readItem_13 : decode cX4_readItem 13 = .ok (.iconst 0, 1) := by decide +kernel
theorem dX4_readItem_14 : decode cX4_readItem 14 = .ok (.ireturn, 1) := by decide +kernel
theorem dX4_readItem_15 : decode cX4_readItem 15 = .ok (.aload_n 1, 1) := by decide +kernel
theorem dX4_readItem_16 : decode cX4_readItem 16 = .ok (.invokevirtual 62, 3) := by decide +kernel
theorem dX4_readItem_19 : decode cX4_readItem 19 = .ok (.iload_n 2, 1) := by decide +kernel
theorem dX4_readItem_20 : decode cX4_readItem 20 = .ok (.invokestatic 65, 3) := by decide +kernel
theorem dX4_readItem_23 : decode cX4_readItem 23 = .ok (.istore_n 3, 1) := by decide +kernel
theorem dX4_readItem_24 : decode cX4_readItem 24 = .ok (.iconst 0, 1) := by decide +kernel
theorem dX4_readItem_25 : decode cX4_readItem 25 = .ok (.istore 4, 2) := by decide +kernel
theorem dX4_readItem_27 : decode cX4_readItem 27 = .ok (.iload 4, 2) := by decide +kernel
theorem dX4_readItem_29 : decode cX4_readItem 29 = .ok (.iload_n 3, 1) := by decide +kernel
theorem dX4_readItem_30 : decode cX4_readItem 30 = .ok (.if_icmp .ge 47, 3) := by decide +kernel
theorem dX4_readItem_33 : decode cX4_readItem 33 = .ok (.aload_n 1, 1) := by decide +kernel
theorem dX4_readItem_34 : decode cX4_readItem 34 = .ok (.getfield 51, 3) := by decide +kernel
theorem dX4_readItem_37 : decode cX4_readItem 37 = .ok (.iconst 2, 1) := by decide +kernel
theorem dX4_readItem_38 : decode cX4_readItem 38 = .ok (.if_icmp .ne 16, 3) := by decide +kernel
theorem dX4_readItem_41 : decode cX4_readItem 41 = .ok (.aload_n 1, 1) := by decide +kernel
theorem dX4_readItem_42 : decode cX4_readItem 42 = .ok (.getfield 69, 3) := by decide +kernel
theorem dX4_readItem_45 : decode cX4_readItem 45 = .ok (.iload_n 2, 1) := by decide +kernel
theorem dX4_readItem_46 : decode cX4_readItem 46 = .ok (.iload 4, 2) := by decide +kernel
theorem dX4_readItem_48 : decode cX4_readItem 48 = .ok (.invokestatic 72, 3) := by decide +kernel
theorem dX4_readItem_51 : decode cX4_readItem 51 = .ok (.if_icmp .le 5, 3) := by decide +kernel
theorem dX4_readItem_54 : decode cX4_readItem 54 = .ok (.iconst 0, 1) := by decide +kernel
theorem dX4_readItem_55 : decode cX4_readItem 55 = .ok (.ireturn, 1) := by decide +kernel
theorem dX4_readItem_56 : decode cX4_readItem 56 = .ok (.aload_n 0, 1) := by decide +kernel
theorem dX4_readItem_57 : decode cX4_readItem 57 = .ok (.getfield 25, 3) := by decide +kernel
theorem dX4_readItem_60 : decode cX4_readItem 60 = .ok (.iload 4, 2) := by decide +kernel
theorem dX4_readItem_62 : decode cX4_readItem 62 = .ok (.aload_n 1, 1) := by decide +kernel
theorem dX4_readItem_63 : decode cX4_readItem 63 = .ok (.getfield 69, 3) := by decide +kernel
theorem dX4_readItem_66 : decode cX4_readItem 66 = .ok (.iastore, 1) := by decide +kernel
theorem dX4_readItem_67 : decode cX4_readItem 67 = .ok (.aload_n 1, 1) := by decide +kernel
theorem dX4_readItem_68 : decode cX4_readItem 68 = .ok (.invokevirtual 62, 3) := by decide +kernel
theorem dX4_readItem_71 : decode cX4_readItem 71 = .ok (.iinc 4 1, 3) := by decide +kernel
theorem dX4_readItem_74 : decode cX4_readItem 74 = .ok (.goto (-47), 3) := by decide +kernel
theorem dX4_readItem_77 : decode cX4_readItem 77 = .ok (.aload_n 1, 1) := by decide +kernel
theorem dX4_readItem_78 : decode cX4_readItem 78 = .ok (.getfield 51, 3) := by decide +kernel
theorem dX4_readItem_81 : decode cX4_readItem 81 = .ok (.iconst 3, 1) := by decide +kernel
theorem dX4_readItem_82 : decode cX4_readItem 82 = .ok (.if_icmp .eq 5, 3) := by decide +kernel
theorem dX4_readItem_85 : decode cX4_readItem 85 = .ok (.iconst 0, 1) := by decide +kernel
theorem dX4_readItem_86 : decode cX4_readItem 86 = .ok (.ireturn, 1) := by decide +kernel
theorem dX4_readItem_87 : decode cX4_readItem 87 = .ok (.aload_n 0, 1) := by decide +kernel
theorem dX4_readItem_88 : decode cX4_readItem 88 = .ok (.iload_n 2, 1) := by decide +kernel
theorem dX4_readItem_89 : decode cX4_readItem 89 = .ok (.invokevirtual 76, 3) := by decide +kernel
theorem dX4_readItem_92 : decode cX4_readItem 92 = .ok (.aload_n 1, 1) := by decide +kernel
theorem dX4_readItem_93 : decode cX4_readItem 93 = .ok (.invokevirtual 62, 3) := by decide +kernel
theorem dX4_readItem_96 : decode cX4_readItem 96 = .ok (.iconst 1, 1) := by decide +kernel
theorem dX4_readItem_97 : decode cX4_readItem 97 = .ok (.ireturn, 1) := by decide +kernel
theorem dX4_mayBegin_0 : decode cX4_mayBegin 0 = .ok (.iload_n 1, 1) := by decide +kernel
theorem dX4_mayBegin_1 : decode cX4_mayBegin 1 = .ok (.tableswitch 76 4 6 #[27, 45, 63], 27) := by decide +kernel
theorem dX4_mayBegin_28 : decode cX4_mayBegin 28 = .ok (.aload_n 0, 1) := by decide +kernel
theorem dX4_mayBegin_29 : decode cX4_mayBegin 29 = .ok (.getfield 21, 3) := by decide +kernel
theorem dX4_mayBegin_32 : decode cX4_mayBegin 32 = .ok (.getfield 37, 3) := by decide +kernel
theorem dX4_mayBegin_35 : decode cX4_mayBegin 35 = .ok (.bipush 6, 2) := by decide +kernel
theorem dX4_mayBegin_37 : decode cX4_mayBegin 37 = .ok (.if_icmp .ge 7, 3) := by decide +kernel
theorem dX4_mayBegin_40 : decode cX4_mayBegin 40 = .ok (.iconst 1, 1) := by decide +kernel
theorem dX4_mayBegin_41 : decode cX4_mayBegin 41 = .ok (.goto 4, 3) := by decide +kernel
theorem dX4_mayBegin_44 : decode cX4_mayBegin 44 = .ok (.iconst 0, 1) := by decide +kernel
theorem dX4_mayBegin_45 : decode cX4_mayBegin 45 = .ok (.ireturn, 1) := by decide +kernel
theorem dX4_mayBegin_46 : decode cX4_mayBegin 46 = .ok (.aload_n 0, 1) := by decide +kernel
theorem dX4_mayBegin_47 : decode cX4_mayBegin 47 = .ok (.getfield 12, 3) := by decide +kernel
theorem dX4_mayBegin_50 : decode cX4_mayBegin 50 = .ok (.getfield 33, 3) := by decide +kernel
theorem dX4_mayBegin_53 : decode cX4_mayBegin 53 = .ok (.bipush 8, 2) := by decide +kernel
theorem dX4_mayBegin_55 : decode cX4_mayBegin 55 = .ok (.if_icmp .ge 7, 3) := by decide +kernel
theorem dX4_mayBegin_58 : decode cX4_mayBegin 58 = .ok (.iconst 1, 1) := by decide +kernel
theorem dX4_mayBegin_59 : decode cX4_mayBegin 59 = .ok (.goto 4, 3) := by decide +kernel
theorem dX4_mayBegin_62 : decode cX4_mayBegin 62 = .ok (.iconst 0, 1) := by decide +kernel
theorem dX4_mayBegin_63 : decode cX4_mayBegin 63 = .ok (.ireturn, 1) := by decide +kernel
theorem dX4_mayBegin_64 : decode cX4_mayBegin 64 = .ok (.aload_n 0, 1) := by decide +kernel
theorem dX4_mayBegin_65 : decode cX4_mayBegin 65 = .ok (.getfield 29, 3) := by decide +kernel
theorem dX4_mayBegin_68 : decode cX4_mayBegin 68 = .ok (.ifCond .ne 7, 3) := by decide +kernel
theorem dX4_mayBegin_71 : decode cX4_mayBegin 71 = .ok (.iconst 1, 1) := by decide +kernel
theorem dX4_mayBegin_72 : decode cX4_mayBegin 72 = .ok (.goto 4, 3) := by decide +kernel
theorem dX4_mayBegin_75 : decode cX4_mayBegin 75 = .ok (.iconst 0, 1) := by decide +kernel
theorem dX4_mayBegin_76 : decode cX4_mayBegin 76 = .ok (.ireturn, 1) := by decide +kernel
theorem dX4_mayBegin_77 : decode cX4_mayBegin 77 = .ok (.iconst 0, 1) := by decide +kernel
theorem dX4_mayBegin_78 : decode cX4_mayBegin 78 = .ok (.ireturn, 1) := by decide +kernel
theorem dX4_numbersOf_0 : decode cX4_numbersOf 0 = .ok (.iload_n 0, 1) := by decide +kernel
theorem dX4_numbersOf_1 : decode cX4_numbersOf 1 = .ok (.tableswitch 34 4 6 #[27, 29, 32], 27) := by decide +kernel
theorem dX4_numbersOf_28 : decode cX4_numbersOf 28 = .ok (.iconst 5, 1) := by decide +kernel
theorem dX4_numbersOf_29 : decode cX4_numbersOf 29 = .ok (.ireturn, 1) := by decide +kernel
theorem dX4_numbersOf_30 : decode cX4_numbersOf 30 = .ok (.bipush 7, 2) := by decide +kernel
theorem dX4_numbersOf_32 : decode cX4_numbersOf 32 = .ok (.ireturn, 1) := by decide +kernel
theorem dX4_numbersOf_33 : decode cX4_numbersOf 33 = .ok (.iconst 1, 1) := by decide +kernel
theorem dX4_numbersOf_34 : decode cX4_numbersOf 34 = .ok (.ireturn, 1) := by decide +kernel
theorem dX4_numbersOf_35 : decode cX4_numbersOf 35 = .ok (.iconst 0, 1) := by decide +kernel
theorem dX4_numbersOf_36 : decode cX4_numbersOf 36 = .ok (.ireturn, 1) := by decide +kernel
theorem dX4_mostOf_0 : decode cX4_mostOf 0 = .ok (.iload_n 0, 1) := by decide +kernel
theorem dX4_mostOf_1 : decode cX4_mostOf 1 = .ok (.bipush 6, 2) := by decide +kernel
theorem dX4_mostOf_3 : decode cX4_mostOf 3 = .ok (.if_icmp .ne 5, 3) := by decide +kernel
theorem dX4_mostOf_6 : decode cX4_mostOf 6 = .ok (.iconst 5, 1) := by decide +kernel
theorem dX4_mostOf_7 : decode cX4_mostOf 7 = .ok (.ireturn, 1) := by decide +kernel
theorem dX4_mostOf_8 : decode cX4_mostOf 8 = .ok (.iload_n 1, 1) := by decide +kernel
theorem dX4_mostOf_9 : decode cX4_mostOf 9 = .ok (.iconst 5, 1) := by decide +kernel
theorem dX4_mostOf_10 : decode cX4_mostOf 10 = .ok (.if_icmp .ge 6, 3) := by decide +kernel
theorem dX4_mostOf_13 : decode cX4_mostOf 13 = .ok (.bipush 9, 2) := by decide +kernel
theorem dX4_mostOf_15 : decode cX4_mostOf 15 = .ok (.ireturn, 1) := by decide +kernel
theorem dX4_mostOf_16 : decode cX4_mostOf 16 = .ok (.iload_n 1, 1) := by decide +kernel
theorem dX4_mostOf_17 : decode cX4_mostOf 17 = .ok (.iconst 5, 1) := by decide +kernel
theorem dX4_mostOf_18 : decode cX4_mostOf 18 = .ok (.if_icmp .ne 8, 3) := by decide +kernel
theorem dX4_mostOf_21 : decode cX4_mostOf 21 = .ok (.bipush 7, 2) := by decide +kernel
theorem dX4_mostOf_23 : decode cX4_mostOf 23 = .ok (.goto 5, 3) := by decide +kernel
theorem dX4_mostOf_26 : decode cX4_mostOf 26 = .ok (.bipush 7, 2) := by decide +kernel
theorem dX4_mostOf_28 : decode cX4_mostOf 28 = .ok (.ireturn, 1) := by decide +kernel
theorem dX4_draft_0 : decode cX4_draft 0 = .ok (.iload_n 1, 1) := by decide +kernel
theorem dX4_draft_1 : decode cX4_draft 1 = .ok (.iconst 4, 1) := by decide +kernel
theorem dX4_draft_2 : decode cX4_draft 2 = .ok (.if_icmp .ne 17, 3) := by decide +kernel
theorem dX4_draft_5 : decode cX4_draft 5 = .ok (.aload_n 0, 1) := by decide +kernel
theorem dX4_draft_6 : decode cX4_draft 6 = .ok (.getfield 21, 3) := by decide +kernel
theorem dX4_draft_9 : decode cX4_draft 9 = .ok (.aload_n 0, 1) := by decide +kernel
theorem dX4_draft_10 : decode cX4_draft 10 = .ok (.getfield 25, 3) := by decide +kernel
theorem dX4_draft_13 : decode cX4_draft 13 = .ok (.invokevirtual 80, 3) := by decide +kernel
theorem dX4_draft_16 : decode cX4_draft 16 = .ok (.goto 40, 3) := by decide +kernel
theorem dX4_draft_19 : decode cX4_draft 19 = .ok (.iload_n 1, 1) := by decide +kernel
theorem dX4_draft_20 : decode cX4_draft 20 = .ok (.iconst 5, 1) := by decide +kernel
theorem dX4_draft_21 : decode cX4_draft 21 = .ok (.if_icmp .ne 17, 3) := by decide +kernel
theorem dX4_draft_24 : decode cX4_draft 24 = .ok (.aload_n 0, 1) := by decide +kernel
theorem dX4_draft_25 : decode cX4_draft 25 = .ok (.getfield 12, 3) := by decide +kernel
theorem dX4_draft_28 : decode cX4_draft 28 = .ok (.aload_n 0, 1) := by decide +kernel
theorem dX4_draft_29 : decode cX4_draft 29 = .ok (.getfield 25, 3) := by decide +kernel
theorem dX4_draft_32 : decode cX4_draft 32 = .ok (.invokevirtual 84, 3) := by decide +kernel
theorem dX4_draft_35 : decode cX4_draft 35 = .ok (.goto 21, 3) := by decide +kernel
theorem dX4_draft_38 : decode cX4_draft 38 = .ok (.aload_n 0, 1) := by decide +kernel
theorem dX4_draft_39 : decode cX4_draft 39 = .ok (.getfield 21, 3) := by decide +kernel
theorem dX4_draft_42 : decode cX4_draft 42 = .ok (.aload_n 0, 1) := by decide +kernel
theorem dX4_draft_43 : decode cX4_draft 43 = .ok (.getfield 25, 3) := by decide +kernel
theorem dX4_draft_46 : decode cX4_draft 46 = .ok (.iconst 0, 1) := by decide +kernel
theorem dX4_draft_47 : decode cX4_draft 47 = .ok (.iaload, 1) := by decide +kernel
theorem dX4_draft_48 : decode cX4_draft 48 = .ok (.putfield 43, 3) := by decide +kernel
theorem dX4_draft_51 : decode cX4_draft 51 = .ok (.aload_n 0, 1) := by decide +kernel
theorem dX4_draft_52 : decode cX4_draft 52 = .ok (.iconst 1, 1) := by decide +kernel
theorem dX4_draft_53 : decode cX4_draft 53 = .ok (.putfield 29, 3) := by decide +kernel
theorem dX4_draft_56 : decode cX4_draft 56 = .ok (.return_, 1) := by decide +kernel
