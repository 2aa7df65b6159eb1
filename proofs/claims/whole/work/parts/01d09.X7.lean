theorem dX7_cook_128 : decode cX7_cook 128 = .ok (.iadd, 1) := by decide +kernel
theorem dX7_cook_129 : decode cX7_cook 129 = .ok (.iastore, 1) := by decide +kernel
theorem dX7_cook_130 : decode cX7_cook 130 = .ok (.aload_n 0, 1) := by decide +kernel
theorem dX7_cook_131 : decode cX7_cook 131 = .ok (.getfield 26, 3) := by decide +kernel
theorem dX7_cook_134 : decode cX7_cook 134 = .ok (.iload_n 2, 1) := by decide +kernel
theorem dX7_cook_135 : decode cX7_cook 135 = .ok (.iaload, 1) := by decide +kernel
theorem dX7_cook_136 : decode cX7_cook 136 = .ok (.ireturn, 1) := by decide +kernel
theorem dX7_undo_0 : decode cX7_undo 0 = .ok (.aload_n 0, 1) := by decide +kernel
theorem dX7_undo_1 : decode cX7_undo 1 = .ok (.getfield 35, 3) := by decide +kernel
theorem dX7_undo_4 : decode cX7_undo 4 = .ok (.bipush 32, 2) := by decide +kernel
theorem dX7_undo_6 : decode cX7_undo 6 = .ok (.iaload, 1) := by decide +kernel
theorem dX7_undo_7 : decode cX7_undo 7 = .ok (.ifCond .ne 6, 3) := by decide +kernel
theorem dX7_undo_10 : decode cX7_undo 10 = .ok (.bipush (-2), 2) := by decide +kernel
theorem dX7_undo_12 : decode cX7_undo 12 = .ok (.ireturn, 1) := by decide +kernel
theorem dX7_undo_13 : decode cX7_undo 13 = .ok (.aload_n 0, 1) := by decide +kernel
theorem dX7_undo_14 : decode cX7_undo 14 = .ok (.getfield 35, 3) := by decide +kernel
theorem dX7_undo_17 : decode cX7_undo 17 = .ok (.bipush 32, 2) := by decide +kernel
theorem dX7_undo_19 : decode cX7_undo 19 = .ok (.dup2, 1) := by decide +kernel
theorem dX7_undo_20 : decode cX7_undo 20 = .ok (.iaload, 1) := by decide +kernel
theorem dX7_undo_21 : decode cX7_undo 21 = .ok (.iconst 1, 1) := by decide +kernel
theorem dX7_undo_22 : decode cX7_undo 22 = .ok (.isub, 1) := by decide +kernel
theorem dX7_undo_23 : decode cX7_undo 23 = .ok (.iastore, 1) := by decide +kernel
theorem dX7_undo_24 : decode cX7_undo 24 = .ok (.aload_n 0, 1) := by decide +kernel
theorem dX7_undo_25 : decode cX7_undo 25 = .ok (.getfield 35, 3) := by decide +kernel
theorem dX7_undo_28 : decode cX7_undo 28 = .ok (.bipush 33, 2) := by decide +kernel
theorem dX7_undo_30 : decode cX7_undo 30 = .ok (.iconst 2, 1) := by decide +kernel
theorem dX7_undo_31 : decode cX7_undo 31 = .ok (.aload_n 0, 1) := by decide +kernel
theorem dX7_undo_32 : decode cX7_undo 32 = .ok (.getfield 35, 3) := by decide +kernel
theorem dX7_undo_35 : decode cX7_undo 35 = .ok (.bipush 32, 2) := by decide +kernel
theorem dX7_undo_37 : decode cX7_undo 37 = .ok (.iaload, 1) := by decide +kernel
theorem dX7_undo_38 : decode cX7_undo 38 = .ok (.imul, 1) := by decide +kernel
theorem dX7_undo_39 : decode cX7_undo 39 = .ok (.iadd, 1) := by decide +kernel
theorem dX7_undo_40 : decode cX7_undo 40 = .ok (.iaload, 1) := by decide +kernel
theorem dX7_undo_41 : decode cX7_undo 41 = .ok (.istore_n 1, 1) := by decide +kernel
theorem dX7_undo_42 : decode cX7_undo 42 = .ok (.aload_n 0, 1) := by decide +kernel
theorem dX7_undo_43 : decode cX7_undo 43 = .ok (.getfield 35, 3) := by decide +kernel
theorem dX7_undo_46 : decode cX7_undo 46 = .ok (.bipush 33, 2) := by decide +kernel
theorem dX7_undo_48 : decode cX7_undo 48 = .ok (.iconst 2, 1) := by decide +kernel
theorem dX7_undo_49 : decode cX7_undo 49 = .ok (.aload_n 0, 1) := by decide +kernel
theorem dX7_undo_50 : decode cX7_undo 50 = .ok (.getfield 35, 3) := by decide +kernel
theorem dX7_undo_53 : decode cX7_undo 53 = .ok (.bipush 32, 2) := by decide +kernel
theorem dX7_undo_55 : decode cX7_undo 55 = .ok (.iaload, 1) := by decide +kernel
theorem dX7_undo_56 : decode cX7_undo 56 = .ok (.imul, 1) := by decide +kernel
theorem dX7_undo_57 : decode cX7_undo 57 = .ok (.iadd, 1) := by decide +kernel
theorem dX7_undo_58 : decode cX7_undo 58 = .ok (.iconst 1, 1) := by decide +kernel
theorem dX7_undo_59 : decode cX7_undo 59 = .ok (.iadd, 1) := by decide +kernel
theorem dX7_undo_60 : decode cX7_undo 60 = .ok (.iaload, 1) := by decide +kernel
theorem dX7_undo_61 : decode cX7_undo 61 = .ok (.istore_n 2, 1) := by decide +kernel
theorem dX7_undo_62 : decode cX7_undo 62 = .ok (.iconst 0, 1) := by decide +kernel
theorem dX7_undo_63 : decode cX7_undo 63 = .ok (.istore_n 3, 1) := by decide +kernel
theorem dX7_undo_64 : decode cX7_undo 64 = .ok (.iload_n 3, 1) := by decide +kernel
theorem dX7_undo_65 : decode cX7_undo 65 = .ok (.iconst 5, 1) := by decide +kernel
theorem dX7_undo_66 : decode cX7_undo 66 = .ok (.if_icmp .ge 56, 3) := by decide +kernel
theorem dX7_undo_69 : decode cX7_undo 69 = .ok (.aload_n 0, 1) := by decide +kernel
theorem dX7_undo_70 : decode cX7_undo 70 = .ok (.getfield 35, 3) := by decide +kernel
theorem dX7_undo_73 : decode cX7_undo 73 = .ok (.iconst 5, 1) := by decide +kernel
theorem dX7_undo_74 : decode cX7_undo 74 = .ok (.iload_n 1, 1) := by decide +kernel
theorem dX7_undo_75 : decode cX7_undo 75 = .ok (.imul, 1) := by decide +kernel
theorem dX7_undo_76 : decode cX7_undo 76 = .ok (.iload_n 3, 1) := by decide +kernel
theorem dX7_undo_77 : decode cX7_undo 77 = .ok (.iadd, 1) := by decide +kernel
theorem dX7_undo_78 : decode cX7_undo 78 = .ok (.iaload, 1) := by decide +kernel
theorem dX7_undo_79 : decode cX7_undo 79 = .ok (.aload_n 0, 1) := by decide +kernel
theorem dX7_undo_80 : decode cX7_undo 80 = .ok (.getfield 23, 3) := by decide +kernel
theorem dX7_undo_83 : decode cX7_undo 83 = .ok (.iconst 5, 1) := by decide +kernel
theorem dX7_undo_84 : decode cX7_undo 84 = .ok (.iload_n 2, 1) := by decide +kernel
theorem dX7_undo_85 : decode cX7_undo 85 = .ok (.imul, 1) := by decide +kernel
theorem dX7_undo_86 : decode cX7_undo 86 = .ok (.iload_n 3, 1) := by decide +kernel
theorem dX7_undo_87 : decode cX7_undo 87 = .ok (.iadd, 1) := by decide +kernel
theorem dX7_undo_88 : decode cX7_undo 88 = .ok (.iaload, 1) := by decide +kernel
theorem dX7_undo_89 : decode cX7_undo 89 = .ok (.iadd, 1) := by decide +kernel
theorem dX7_undo_90 : decode cX7_undo 90 = .ok (.istore 4, 2) := by decide +kernel
theorem dX7_undo_92 : decode cX7_undo 92 = .ok (.aload_n 0, 1) := by decide +kernel
theorem dX7_undo_93 : decode cX7_undo 93 = .ok (.getfield 35, 3) := by decide +kernel
theorem dX7_undo_96 : decode cX7_undo 96 = .ok (.iconst 5, 1) := by decide +kernel
theorem dX7_undo_97 : decode cX7_undo 97 = .ok (.iload_n 1, 1) := by decide +kernel
theorem dX7_undo_98 : decode cX7_undo 98 = .ok (.imul, 1) := by decide +kernel
theorem dX7_undo_99 : decode cX7_undo 99 = .ok (.iload_n 3, 1) := by decide +kernel
theorem dX7_undo_100 : decode cX7_undo 100 = .ok (.iadd, 1) := by decide +kernel
theorem dX7_undo_101 : decode cX7_undo 101 = .ok (.iload 4, 2) := by decide +kernel
theorem dX7_undo_103 : decode cX7_undo 103 = .ok (.bipush 9, 2) := by decide +kernel
theorem dX7_undo_105 : decode cX7_undo 105 = .ok (.if_icmp .le 8, 3) := by decide +kernel
theorem dX7_undo_108 : decode cX7_undo 108 = .ok (.bipush 9, 2) := by decide +kernel
theorem dX7_undo_110 : decode cX7_undo 110 = .ok (.goto 5, 3) := by decide +kernel
theorem dX7_undo_113 : decode cX7_undo 113 = .ok (.iload 4, 2) := by decide +kernel
theorem dX7_undo_115 : decode cX7_undo 115 = .ok (.iastore, 1) := by decide +kernel
theorem dX7_undo_116 : decode cX7_undo 116 = .ok (.iinc 3 1, 3) := by decide +kernel
theorem dX7_undo_119 : decode cX7_undo 119 = .ok (.goto (-55), 3) := by decide +kernel
theorem dX7_undo_122 : decode cX7_undo 122 = .ok (.aload_n 0, 1) := by decide +kernel
theorem dX7_undo_123 : decode cX7_undo 123 = .ok (.getfield 35, 3) := by decide +kernel
theorem dX7_undo_126 : decode cX7_undo 126 = .ok (.bipush 32, 2) := by decide +kernel
theorem dX7_undo_128 : decode cX7_undo 128 = .ok (.iaload, 1) := by decide +kernel
theorem dX7_undo_129 : decode cX7_undo 129 = .ok (.ireturn, 1) := by decide +kernel
theorem dX7_gives_0 : decode cX7_gives 0 = .ok (.aload_n 0, 1) := by decide +kernel
theorem dX7_gives_1 : decode cX7_gives 1 = .ok (.iload_n 1, 1) := by decide +kernel
theorem dX7_gives_2 : decode cX7_gives 2 = .ok (.invokevirtual 111, 3) := by decide +kernel
theorem dX7_gives_5 : decode cX7_gives 5 = .ok (.ifCond .eq 36, 3) := by decide +kernel
theorem dX7_gives_8 : decode cX7_gives 8 = .ok (.aload_n 0, 1) := by decide +kernel
theorem dX7_gives_9 : decode cX7_gives 9 = .ok (.iload_n 2, 1) := by decide +kernel
theorem dX7_gives_10 : decode cX7_gives 10 = .ok (.invokevirtual 111, 3) := by decide +kernel
theorem dX7_gives_13 : decode cX7_gives 13 = .ok (.ifCond .eq 28, 3) := by decide +kernel
theorem dX7_gives_16 : decode cX7_gives 16 = .ok (.iload_n 1, 1) := by decide +kernel
theorem dX7_gives_17 : decode cX7_gives 17 = .ok (.iload_n 2, 1) := by decide +kernel
theorem dX7_gives_18 : decode cX7_gives 18 = .ok (.if_icmp .eq 23, 3) := by decide +kernel
theorem dX7_gives_21 : decode cX7_gives 21 = .ok (.iload_n 3, 1) := by decide +kernel
theorem dX7_gives_22 : decode cX7_gives 22 = .ok (.iconst 0, 1) := by decide +kernel
theorem dX7_gives_23 : decode cX7_gives 23 = .ok (.iconst 4, 1) := by decide +kernel
theorem dX7_gives_24 : decode cX7_gives 24 = .ok (.invokestatic 61, 3) := by decide +kernel
theorem dX7_gives_27 : decode cX7_gives 27 = .ok (.ifCond .eq 14, 3) := by decide +kernel
theorem dX7_gives_30 : decode cX7_gives 30 = .ok (.iload 4, 2) := by decide +kernel
theorem dX7_gives_32 : decode cX7_gives 32 = .ok (.iconst 1, 1) := by decide +kernel
theorem dX7_gives_33 : decode cX7_gives 33 = .ok (.bipush 9, 2) := by decide +kernel
theorem dX7_gives_35 : decode cX7_gives 35 = .ok (.invokestatic 61, 3) := by decide +kernel
theorem dX7_gives_38 : decode cX7_gives 38 = .ok (.ifCond .ne 5, 3) := by decide +kernel
theorem dX7_gives_41 : decode cX7_gives 41 = .ok (.iconst (-1), 1) := by decide +kernel
theorem dX7_gives_42 : decode cX7_gives 42 = .ok (.ireturn, 1) := by decide +kernel
theorem dX7_gives_43 : decode cX7_gives 43 = .ok (.aload_n 0, 1) := by decide +kernel
theorem dX7_gives_44 : decode cX7_gives 44 = .ok (.getfield 35, 3) := by decide +kernel
theorem dX7_gives_47 : decode cX7_gives 47 = .ok (.iconst 5, 1) := by decide +kernel
theorem dX7_gives_48 : decode cX7_gives 48 = .ok (.iload_n 1, 1) := by decide +kernel
theorem dX7_gives_49 : decode cX7_gives 49 = .ok (.imul, 1) := by decide +kernel
theorem dX7_gives_50 : decode cX7_gives 50 = .ok (.iload_n 3, 1) := by decide +kernel
theorem dX7_gives_51 : decode cX7_gives 51 = .ok (.iadd, 1) := by decide +kernel
theorem dX7_gives_52 : decode cX7_gives 52 = .ok (.iaload, 1) := by decide +kernel
theorem dX7_gives_53 : decode cX7_gives 53 = .ok (.iload 4, 2) := by decide +kernel
theorem dX7_gives_55 : decode cX7_gives 55 = .ok (.if_icmp .ge 6, 3) := by decide +kernel
theorem dX7_gives_58 : decode cX7_gives 58 = .ok (.bipush (-2), 2) := by decide +kernel
theorem dX7_gives_60 : decode cX7_gives 60 = .ok (.ireturn, 1) := by decide +kernel
theorem dX7_gives_61 : decode cX7_gives 61 = .ok (.aload_n 0, 1) := by decide +kernel
theorem dX7_gives_62 : decode cX7_gives 62 = .ok (.getfield 35, 3) := by decide +kernel
theorem dX7_gives_65 : decode cX7_gives 65 = .ok (.iconst 5, 1) := by decide +kernel
theorem dX7_gives_66 : decode cX7_gives 66 = .ok (.iload_n 2, 1) := by decide +kernel
theorem dX7_gives_67 : decode cX7_gives 67 = .ok (.imul, 1) := by decide +kernel
theorem dX7_gives_68 : decode cX7_gives 68 = .ok (.iload_n 3, 1) := by decide +kernel
theorem dX7_gives_69 : decode cX7_gives 69 = .ok (.iadd, 1) := by decide +kernel
theorem dX7_gives_70 : decode cX7_gives 70 = .ok (.iaload, 1) := by decide +kernel
theorem dX7_gives_71 : decode cX7_gives 71 = .ok (.iload 4, 2) := by decide +kernel
theorem dX7_gives_73 : decode cX7_gives 73 = .ok (.iadd, 1) := by decide +kernel
theorem dX7_gives_74 : decode cX7_gives 74 = .ok (.bipush 9, 2) := by decide +kernel
theorem dX7_gives_76 : decode cX7_gives 76 = .ok (.if_icmp .le 6, 3) := by decide +kernel
theorem dX7_gives_79 : decode cX7_gives 79 = .ok (.bipush (-3), 2) := by decide +kernel
theorem dX7_gives_81 : decode cX7_gives 81 = .ok (.ireturn, 1) := by decide +kernel
theorem dX7_gives_82 : decode cX7_gives 82 = .ok (.aload_n 0, 1) := by decide +kernel
theorem dX7_gives_83 : decode cX7_gives 83 = .ok (.getfield 35, 3) := by decide +kernel
theorem dX7_gives_86 : decode cX7_gives 86 = .ok (.iconst 5, 1) := by decide +kernel
theorem dX7_gives_87 : decode cX7_gives 87 = .ok (.iload_n 1, 1) := by decide +kernel
theorem dX7_gives_88 : decode cX7_gives 88 = .ok (.imul, 1) := by decide +kernel
theorem dX7_gives_89 : decode cX7_gives 89 = .ok (.iload_n 3, 1) := by decide +kernel
theorem dX7_gives_90 : decode cX7_gives 90 = .ok (.iadd, 1) := by decide +kernel
theorem dX7_gives_91 : decode cX7_gives 91 = .ok (.dup2, 1) := by decide +kernel
theorem dX7_gives_92 : decode cX7_gives 92 = .ok (.iaload, 1) := by decide +kernel
theorem dX7_gives_93 : decode cX7_gives 93 = .ok (.iload 4, 2) := by decide +kernel
theorem dX7_gives_95 : decode cX7_gives 95 = .ok (.isub, 1) := by decide +kernel
theorem dX7_gives_96 : decode cX7_gives 96 = .ok (.iastore, 1) := by decide +kernel
theorem dX7_gives_97 : decode cX7_gives 97 = .ok (.aload_n 0, 1) := by decide +kernel
theorem dX7_gives_98 : decode cX7_gives 98 = .ok (.getfield 35, 3) := by decide +kernel
theorem dX7_gives_101 : decode cX7_gives 101 = .ok (.iconst 5, 1) := by decide +kernel
theorem dX7_gives_102 : decode cX7_gives 102 = .ok (.iload_n 2, 1) := by decide +kernel
theorem dX7_gives_103 : decode cX7_gives 103 = .ok (.imul, 1) := by decide +kernel
theorem dX7_gives_104 : decode cX7_gives 104 = .ok (.iload_n 3, 1) := by decide +kernel
theorem dX7_gives_105 : decode cX7_gives 105 = .ok (.iadd, 1) := by decide +kernel
theorem dX7_gives_106 : decode cX7_gives 106 = .ok (.dup2, 1) := by decide +kernel
theorem dX7_gives_107 : decode cX7_gives 107 = .ok (.iaload, 1) := by decide +kernel
theorem dX7_gives_108 : decode cX7_gives 108 = .ok (.iload 4, 2) := by decide +kernel
theorem dX7_gives_110 : decode cX7_gives 110 = .ok (.iadd, 1) := by decide +kernel
theorem dX7_gives_111 : decode cX7_gives 111 = .ok (.iastore, 1) := by decide +kernel
theorem dX7_gives_112 : decode cX7_gives 112 = .ok (.aload_n 0, 1) := by decide +kernel
theorem dX7_gives_113 : decode cX7_gives 113 = .ok (.getfield 35, 3) := by decide +kernel
theorem dX7_gives_116 : decode cX7_gives 116 = .ok (.iconst 5, 1) := by decide +kernel
theorem dX7_gives_117 : decode cX7_gives 117 = .ok (.iload_n 2, 1) := by decide +kernel
theorem dX7_gives_118 : decode cX7_gives 118 = .ok (.imul, 1) := by decide +kernel
theorem dX7_gives_119 : decode cX7_gives 119 = .ok (.iload_n 3, 1) := by decide +kernel
theorem dX7_gives_120 : decode cX7_gives 120 = .ok (.iadd, 1) := by decide +kernel
theorem dX7_gives_121 : decode cX7_gives 121 = .ok (.iaload, 1) := by decide +kernel
theorem dX7_gives_122 : decode cX7_gives 122 = .ok (.ireturn, 1) := by decide +kernel
theorem dX7_burns_0 : decode cX7_burns 0 = .ok (.aload_n 0, 1) := by decide +kernel
theorem dX7_burns_1 : decode cX7_burns 1 = .ok (.iload_n 1, 1) := by decide +kernel
theorem dX7_burns_2 : decode cX7_burns 2 = .ok (.invokevirtual 111, 3) := by decide +kernel
theorem dX7_burns_5 : decode cX7_burns 5 = .ok (.ifCond .ne 5, 3) := by decide +kernel
theorem dX7_burns_8 : decode cX7_burns 8 = .ok (.iconst (-1), 1) := by decide +kernel
theorem dX7_burns_9 : decode cX7_burns 9 = .ok (.ireturn, 1) := by decide +kernel
theorem dX7_burns_10 : decode cX7_burns 10 = .ok (.aload_n 0, 1) := by decide +kernel
theorem dX7_burns_11 : decode cX7_burns 11 = .ok (.iload_n 1, 1) := by decide +kernel
theorem dX7_burns_12 : decode cX7_burns 12 = .ok (.invokevirtual 115, 3) := by decide +kernel
theorem dX7_burns_15 : decode cX7_burns 15 = .ok (.istore_n 2, 1) := by decide +kernel
theorem dX7_burns_16 : decode cX7_burns 16 = .ok (.iconst 0, 1) := by decide +kernel
theorem dX7_burns_17 : decode cX7_burns 17 = .ok (.istore_n 3, 1) := by decide +kernel
theorem dX7_burns_18 : decode cX7_burns 18 = .ok (.iload_n 3, 1) := by decide +kernel
theorem dX7_burns_19 : decode cX7_burns 19 = .ok (.iconst 5, 1) := by decide +kernel
theorem dX7_burns_20 : decode cX7_burns 20 = .ok (.if_icmp .ge 20, 3) := by decide +kernel
theorem dX7_burns_23 : decode cX7_burns 23 = .ok (.aload_n 0, 1) := by decide +kernel
theorem dX7_burns_24 : decode cX7_burns 24 = .ok (.getfield 35, 3) := by decide +kernel
theorem dX7_burns_27 : decode cX7_burns 27 = .ok (.iconst 5, 1) := by decide +kernel
theorem dX7_burns_28 : decode cX7_burns 28 = .ok (.iload_n 1, 1) := by decide +kernel
theorem dX7_burns_29 : decode cX7_burns 29 = .ok (.imul, 1) := by decide +kernel
theorem dX7_burns_30 : decode cX7_burns 30 = .ok (.iload_n 3, 1) := by decide +kernel
theorem dX7_burns_31 : decode cX7_burns 31 = .ok (.iadd, 1) := by decide +kernel
theorem dX7_burns_32 : decode cX7_burns 32 = .ok (.iconst 0, 1) := by decide +kernel
theorem dX7_burns_33 : decode cX7_burns 33 = .ok (.iastore, 1) := by decide +kernel
theorem dX7_burns_34 : decode cX7_burns 34 = .ok (.iinc 3 1, 3) := by decide +kernel
theorem dX7_burns_37 : decode cX7_burns 37 = .ok (.goto (-19), 3) := by decide +kernel
theorem dX7_burns_40 : decode cX7_burns 40 = .ok (.iload_n 2, 1) := by decide +kernel
theorem dX7_burns_41 : decode cX7_burns 41 = .ok (.ireturn, 1) := by decide +kernel
theorem dX7_plume_0 : decode cX7_plume 0 = .ok (.iload_n 1, 1) := by decide +kernel
theorem dX7_plume_1 : decode cX7_plume 1 = .ok (.iconst 0, 1) := by decide +kernel
theorem dX7_plume_2 : decode cX7_plume 2 = .ok (.aload_n 0, 1) := by decide +kernel
theorem dX7_plume_3 : decode cX7_plume 3 = .ok (.getfield 35, 3) := by decide +kernel
theorem dX7_plume_6 : decode cX7_plume 6 = .ok (.bipush 32, 2) := by decide +kernel
theorem dX7_plume_8 : decode cX7_plume 8 = .ok (.iaload, 1) := by decide +kernel
theorem dX7_plume_9 : decode cX7_plume 9 = .ok (.iconst 1, 1) := by decide +kernel
theorem dX7_plume_10 : decode cX7_plume 10 = .ok (.isub, 1) := by decide +kernel
theorem dX7_plume_11 : decode cX7_plume 11 = .ok (.invokestatic 61, 3) := by decide +kernel
theorem dX7_plume_14 : decode cX7_plume 14 = .ok (.ifCond .eq 12, 3) := by decide +kernel
theorem dX7_plume_17 : decode cX7_plume 17 = .ok (.iload_n 2, 1) := by decide +kernel
theorem dX7_plume_18 : decode cX7_plume 18 = .ok (.iconst 0, 1) := by decide +kernel
theorem dX7_plume_19 : decode cX7_plume 19 = .ok (.iconst 1, 1) := by decide +kernel
theorem dX7_plume_20 : decode cX7_plume 20 = .ok (.invokestatic 61, 3) := by decide +kernel
theorem dX7_plume_23 : decode cX7_plume 23 = .ok (.ifCond .ne 5, 3) := by decide +kernel
theorem dX7_plume_26 : decode cX7_plume 26 = .ok (.iconst (-1), 1) := by decide +kernel
theorem dX7_plume_27 : decode cX7_plume 27 = .ok (.ireturn, 1) := by decide +kernel
theorem dX7_plume_28 : decode cX7_plume 28 = .ok (.iload_n 2, 1) := by decide +kernel
theorem dX7_plume_29 : decode cX7_plume 29 = .ok (.ifCond .ne 17, 3) := by decide +kernel
theorem dX7_plume_32 : decode cX7_plume 32 = .ok (.aload_n 0, 1) := by decide +kernel
theorem dX7_plume_33 : decode cX7_plume 33 = .ok (.getfield 35, 3) := by decide +kernel
theorem dX7_plume_36 : decode cX7_plume 36 = .ok (.bipush 33, 2) := by decide +kernel
theorem dX7_plume_38 : decode cX7_plume 38 = .ok (.iconst 2, 1) := by decide +kernel
theorem dX7_plume_39 : decode cX7_plume 39 = .ok (.iload_n 1, 1) := by decide +kernel
theorem dX7_plume_40 : decode cX7_plume 40 = .ok (.imul, 1) := by decide +kernel
theorem dX7_plume_41 : decode cX7_plume 41 = .ok (.iadd, 1) := by decide +kernel
theorem dX7_plume_42 : decode cX7_plume 42 = .ok (.iaload, 1) := by decide +kernel
theorem dX7_plume_43 : decode cX7_plume 43 = .ok (.goto 21, 3) := by decide +kernel
theorem dX7_plume_46 : decode cX7_plume 46 = .ok (.aload_n 0, 1) := by decide +kernel
theorem dX7_plume_47 : decode cX7_plume 47 = .ok (.getfield 26, 3) := by decide +kernel
theorem dX7_plume_50 : decode cX7_plume 50 = .ok (.aload_n 0, 1) := by decide +kernel
theorem dX7_plume_51 : decode cX7_plume 51 = .ok (.getfield 35, 3) := by decide +kernel
theorem dX7_plume_54 : decode cX7_plume 54 = .ok (.bipush 33, 2) := by decide +kernel
theorem dX7_plume_56 : decode cX7_plume 56 = .ok (.iconst 2, 1) := by decide +kernel
theorem dX7_plume_57 : decode cX7_plume 57 = .ok (.iload_n 1, 1) := by decide +kernel
theorem dX7_plume_58 : decode cX7_plume 58 = .ok (.imul, 1) := by decide +kernel
theorem dX7_plume_59 : decode cX7_plume 59 = .ok (.iadd, 1) := by decide +kernel
theorem dX7_plume_60 : decode cX7_plume 60 = .ok (.iconst 1, 1) := by decide +kernel
theorem dX7_plume_61 : decode cX7_plume 61 = .ok (.iadd, 1) := by decide +kernel
theorem dX7_plume_62 : decode cX7_plume 62 = .ok (.iaload, 1) := by decide +kernel
theorem dX7_plume_63 : decode cX7_plume 63 = .ok (.iaload, 1) := by decide +kernel
theorem dX7_plume_64 : decode cX7_plume 64 = .ok (.ireturn, 1) := by decide +kernel
theorem dX7_fog_0 : decode cX7_fog 0 = .ok (.iload_n 1, 1) := by decide +kernel
theorem dX7_fog_1 : decode cX7_fog 1 = .ok (.iconst 0, 1) := by decide +kernel
theorem dX7_fog_2 : decode cX7_fog 2 = .ok (.iconst 5, 1) := by decide +kernel
theorem dX7_fog_3 : decode cX7_fog 3 = .ok (.invokestatic 61, 3) := by decide +kernel
theorem dX7_fog_6 : decode cX7_fog 6 = .ok (.ifCond .ne 5, 3) := by decide +kernel
theorem dX7_fog_9 : decode cX7_fog 9 = .ok (.iconst (-1), 1) := by decide +kernel
theorem dX7_fog_10 : decode cX7_fog 10 = .ok (.ireturn, 1) := by decide +kernel
theorem dX7_fog_11 : decode cX7_fog 11 = .ok (.aload_n 0, 1) := by decide +kernel
theorem dX7_fog_12 : decode cX7_fog 12 = .ok (.getfield 35, 3) := by decide +kernel
theorem dX7_fog_15 : decode cX7_fog 15 = .ok (.bipush 30, 2) := by decide +kernel
theorem dX7_fog_17 : decode cX7_fog 17 = .ok (.iaload, 1) := by decide +kernel
theorem dX7_fog_18 : decode cX7_fog 18 = .ok (.istore_n 2, 1) := by decide +kernel
theorem dX7_fog_19 : decode cX7_fog 19 = .ok (.aload_n 0, 1) := by decide +kernel
theorem dX7_fog_20 : decode cX7_fog 20 = .ok (.getfield 35, 3) := by decide +kernel
theorem dX7_fog_23 : decode cX7_fog 23 = .ok (.bipush 30, 2) := by decide +kernel
theorem dX7_fog_25 : decode cX7_fog 25 = .ok (.iload_n 1, 1) := by decide +kernel
theorem dX7_fog_26 : decode cX7_fog 26 = .ok (.iastore, 1) := by decide +kernel
theorem dX7_fog_27 : decode cX7_fog 27 = .ok (.iload_n 2, 1) := by decide +kernel
theorem dX7_fog_28 : decode cX7_fog 28 = .ok (.ireturn, 1) := by decide +kernel
theorem dX7_areWords_0 : decode cX7_areWords 0 = .ok (.iload_n 0, 1) := by decide +kernel
theorem dX7_areWords_1 : decode cX7_areWords 1 = .ok (.iconst 0, 1) := by decide +kernel
theorem dX7_areWords_2 : decode cX7_areWords 2 = .ok (.bipush 7, 2) := by decide +kernel
theorem dX7_areWords_4 : decode cX7_areWords 4 = .ok (.invokestatic 61, 3) := by decide +kernel
theorem dX7_areWords_7 : decode cX7_areWords 7 = .ok (.ifCond .eq 35, 3) := by decide +kernel
theorem dX7_areWords_10 : decode cX7_areWords 10 = .ok (.iload_n 1, 1) := by decide +kernel
theorem dX7_areWords_11 : decode cX7_areWords 11 = .ok (.iconst (-1), 1) := by decide +kernel
theorem dX7_areWords_12 : decode cX7_areWords 12 = .ok (.bipush 7, 2) := by decide +kernel
theorem dX7_areWords_14 : decode cX7_areWords 14 = .ok (.invokestatic 61, 3) := by decide +kernel
theorem dX7_areWords_17 : decode cX7_areWords 17 = .ok (.ifCond .eq 25, 3) := by decide +kernel
theorem dX7_areWords_20 : decode cX7_areWords 20 = .ok (.iload_n 2, 1) := by decide +kernel
theorem dX7_areWords_21 : decode cX7_areWords 21 = .ok (.iconst (-1), 1) := by decide +kernel
theorem dX7_areWords_22 : decode cX7_areWords 22 = .ok (.bipush 7, 2) := by decide +kernel
theorem dX7_areWords_24 : decode cX7_areWords 24 = .ok (.invokestatic 61, 3) := by decide +kernel
theorem dX7_areWords_27 : decode cX7_areWords 27 = .ok (.ifCond .eq 15, 3) := by decide +kernel
theorem dX7_areWords_30 : decode cX7_areWords 30 = .ok (.iload_n 1, 1) := by decide +kernel
theorem dX7_areWords_31 : decode cX7_areWords 31 = .ok (.ifCond .ge 7, 3) := by decide +kernel
theorem dX7_areWords_34 : decode cX7_areWords 34 = .ok (.iload_n 2, 1) := by decide +kernel
theorem dX7_areWords_35 : decode cX7_areWords 35 = .ok (.ifCond .ge 7, 3) := by decide +kernel
theorem dX7_areWords_38 : decode cX7_areWords 38 = .ok (.iconst 1, 1) := by decide +kernel
theorem dX7_areWords_39 : decode cX7_areWords 39 = .ok (.goto 4, 3) := by decide +kernel
theorem dX7_areWords_42 : decode cX7_areWords 42 = .ok (.iconst 0, 1) := by decide +kernel
theorem dX7_areWords_43 : decode cX7_areWords 43 = .ok (.ireturn, 1) := by decide +kernel
theorem dX7_hasAll_0 : decode cX7_hasAll 0 = .ok (.iconst 1, 1) := by decide +kernel
theorem dX7_hasAll_1 : decode cX7_hasAll 1 = .ok (.istore_n 2, 1) := by decide +kernel
theorem dX7_hasAll_2 : decode cX7_hasAll 2 = .ok (.iconst 0, 1) := by decide +kernel
theorem dX7_hasAll_3 : decode cX7_hasAll 3 = .ok (.istore_n 3, 1) := by decide +kernel
theorem dX7_hasAll_4 : decode cX7_hasAll 4 = .ok (.iload_n 3, 1) := by decide +kernel
theorem dX7_hasAll_5 : decode cX7_hasAll 5 = .ok (.iconst 5, 1) := by decide +kernel
theorem dX7_hasAll_6 : decode cX7_hasAll 6 = .ok (.if_icmp .ge 89, 3) := by decide +kernel
theorem dX7_hasAll_9 : decode cX7_hasAll 9 = .ok (.iconst 0, 1) := by decide +kernel
theorem dX7_hasAll_10 : decode cX7_hasAll 10 = .ok (.istore 4, 2) := by decide +kernel
theorem dX7_hasAll_12 : decode cX7_hasAll 12 = .ok (.iconst 0, 1) := by decide +kernel
theorem dX7_hasAll_13 : decode cX7_hasAll 13 = .ok (.istore 5, 2) := by decide +kernel
theorem dX7_hasAll_15 : decode cX7_hasAll 15 = .ok (.iload 5, 2) := by decide +kernel
theorem dX7_hasAll_17 : decode cX7_hasAll 17 = .ok (.iconst 3, 1) := by decide +kernel
theorem dX7_hasAll_18 : decode cX7_hasAll 18 = .ok (.if_icmp .ge 46, 3) := by decide +kernel
theorem dX7_hasAll_21 : decode cX7_hasAll 21 = .ok (.iload 4, 2) := by decide +kernel
theorem dX7_hasAll_23 : decode cX7_hasAll 23 = .ok (.aload_n 0, 1) := by decide +kernel
theorem dX7_hasAll_24 : decode cX7_hasAll 24 = .ok (.getfield 42, 3) := by decide +kernel
theorem dX7_hasAll_27 : decode cX7_hasAll 27 = .ok (.iload 5, 2) := by decide +kernel
theorem dX7_hasAll_29 : decode cX7_hasAll 29 = .ok (.iaload, 1) := by decide +kernel
theorem dX7_hasAll_30 : decode cX7_hasAll 30 = .ok (.bipush 8, 2) := by decide +kernel
theorem dX7_hasAll_32 : decode cX7_hasAll 32 = .ok (.if_icmp .ge 22, 3) := by decide +kernel
theorem dX7_hasAll_35 : decode cX7_hasAll 35 = .ok (.aload_n 0, 1) := by decide +kernel
theorem dX7_hasAll_36 : decode cX7_hasAll 36 = .ok (.getfield 23, 3) := by decide +kernel
theorem dX7_hasAll_39 : decode cX7_hasAll 39 = .ok (.iconst 5, 1) := by decide +kernel
theorem dX7_hasAll_40 : decode cX7_hasAll 40 = .ok (.aload_n 0, 1) := by decide +kernel
theorem dX7_hasAll_41 : decode cX7_hasAll 41 = .ok (.getfield 42, 3) := by decide +kernel
theorem dX7_hasAll_44 : decode cX7_hasAll 44 = .ok (.iload 5, 2) := by decide +kernel
theorem dX7_hasAll_46 : decode cX7_hasAll 46 = .ok (.iaload, 1) := by decide +kernel
theorem dX7_hasAll_47 : decode cX7_hasAll 47 = .ok (.imul, 1) := by decide +kernel
theorem dX7_hasAll_48 : decode cX7_hasAll 48 = .ok (.iload_n 3, 1) := by decide +kernel
theorem dX7_hasAll_49 : decode cX7_hasAll 49 = .ok (.iadd, 1) := by decide +kernel
theorem dX7_hasAll_50 : decode cX7_hasAll 50 = .ok (.iaload, 1) := by decide +kernel
theorem dX7_hasAll_51 : decode cX7_hasAll 51 = .ok (.goto 4, 3) := by decide +kernel
theorem dX7_hasAll_54 : decode cX7_hasAll 54 = .ok (.iconst 0, 1) := by decide +kernel
theorem dX7_hasAll_55 : decode cX7_hasAll 55 = .ok (.iadd, 1) := by decide +kernel
theorem dX7_hasAll_56 : decode cX7_hasAll 56 = .ok (.istore 4, 2) := by decide +kernel
theorem dX7_hasAll_58 : decode cX7_hasAll 58 = .ok (.iinc 5 1, 3) := by decide +kernel
theorem dX7_hasAll_61 : decode cX7_hasAll 61 = .ok (.goto (-46), 3) := by decide +kernel
theorem dX7_hasAll_64 : decode cX7_hasAll 64 = .ok (.iload_n 2, 1) := by decide +kernel
theorem dX7_hasAll_65 : decode cX7_hasAll 65 = .ok (.ifCond .eq 22, 3) := by decide +kernel
theorem dX7_hasAll_68 : decode cX7_hasAll 68 = .ok (.iload 4, 2) := by decide +kernel
theorem dX7_hasAll_70 : decode cX7_hasAll 70 = .ok (.aload_n 0, 1) := by decide +kernel
theorem dX7_hasAll_71 : decode cX7_hasAll 71 = .ok (.getfield 35, 3) := by decide +kernel
theorem dX7_hasAll_74 : decode cX7_hasAll 74 = .ok (.iconst 5, 1) := by decide +kernel
theorem dX7_hasAll_75 : decode cX7_hasAll 75 = .ok (.iload_n 1, 1) := by decide +kernel
theorem dX7_hasAll_76 : decode cX7_hasAll 76 = .ok (.imul, 1) := by decide +kernel
theorem dX7_hasAll_77 : decode cX7_hasAll 77 = .ok (.iload_n 3, 1) := by decide +kernel
theorem dX7_hasAll_78 : decode cX7_hasAll 78 = .ok (.iadd, 1) := by decide +kernel
theorem dX7_hasAll_79 : decode cX7_hasAll 79 = .ok (.iaload, 1) := by decide +kernel
theorem dX7_hasAll_80 : decode cX7_hasAll 80 = .ok (.if_icmp .gt 7, 3) := by decide +kernel
theorem dX7_hasAll_83 : decode cX7_hasAll 83 = .ok (.iconst 1, 1) := by decide +kernel
theorem dX7_hasAll_84 : decode cX7_hasAll 84 = .ok (.goto 4, 3) := by decide +kernel
theorem dX7_hasAll_87 : decode cX7_hasAll 87 = .ok (.iconst 0, 1) := by decide +kernel
theorem dX7_hasAll_88 : decode cX7_hasAll 88 = .ok (.istore_n 2, 1) := by decide +kernel
theorem dX7_hasAll_89 : decode cX7_hasAll 89 = .ok (.iinc 3 1, 3) := by decide +kernel
theorem dX7_hasAll_92 : decode cX7_hasAll 92 = .ok (.goto (-88), 3) := by decide +kernel
theorem dX7_hasAll_95 : decode cX7_hasAll 95 = .ok (.iload_n 2, 1) := by decide +kernel
theorem dX7_hasAll_96 : decode cX7_hasAll 96 = .ok (.ireturn, 1) := by decide +kernel
theorem dX7_isRow_0 : decode cX7_isRow 0 = .ok (.aload_n 0, 1) := by decide +kernel
theorem dX7_isRow_1 : decode cX7_isRow 1 = .ok (.getfield 42, 3) := by decide +kernel
theorem dX7_isRow_4 : decode cX7_isRow 4 = .ok (.iconst 0, 1) := by decide +kernel
theorem dX7_isRow_5 : decode cX7_isRow 5 = .ok (.iload_n 1, 1) := by decide +kernel
theorem dX7_isRow_6 : decode cX7_isRow 6 = .ok (.bipush 81, 2) := by decide +kernel
theorem dX7_isRow_8 : decode cX7_isRow 8 = .ok (.idiv, 1) := by decide +kernel
theorem dX7_isRow_9 : decode cX7_isRow 9 = .ok (.iastore, 1) := by decide +kernel
theorem dX7_isRow_10 : decode cX7_isRow 10 = .ok (.aload_n 0, 1) := by decide +kernel
theorem dX7_isRow_11 : decode cX7_isRow 11 = .ok (.getfield 42, 3) := by decide +kernel
theorem dX7_isRow_14 : decode cX7_isRow 14 = .ok (.iconst 1, 1) := by decide +kernel
theorem dX7_isRow_15 : decode cX7_isRow 15 = .ok (.iload_n 1, 1) := by decide +kernel
theorem dX7_isRow_16 : decode cX7_isRow 16 = .ok (.bipush 9, 2) := by decide +kernel
theorem dX7_isRow_18 : decode cX7_isRow 18 = .ok (.idiv, 1) := by decide +kernel
theorem dX7_isRow_19 : decode cX7_isRow 19 = .ok (.bipush 9, 2) := by decide +kernel
theorem dX7_isRow_21 : decode cX7_isRow 21 = .ok (.irem, 1) := by decide +kernel
theorem dX7_isRow_22 : decode cX7_isRow 22 = .ok (.iastore, 1) := by decide +kernel
theorem dX7_isRow_23 : decode cX7_isRow 23 = .ok (.aload_n 0, 1) := by decide +kernel
theorem dX7_isRow_24 : decode cX7_isRow 24 = .ok (.getfield 42, 3) := by decide +kernel
theorem dX7_isRow_27 : decode cX7_isRow 27 = .ok (.iconst 2, 1) := by decide +kernel
theorem dX7_isRow_28 : decode cX7_isRow 28 = .ok (.iload_n 1, 1) := by decide +kernel
theorem dX7_isRow_29 : decode cX7_isRow 29 = .ok (.bipush 9, 2) := by decide +kernel
theorem dX7_isRow_31 : decode cX7_isRow 31 = .ok (.irem, 1) := by decide +kernel
theorem dX7_isRow_32 : decode cX7_isRow 32 = .ok (.iastore, 1) := by decide +kernel
theorem dX7_isRow_33 : decode cX7_isRow 33 = .ok (.iconst 1, 1) := by decide +kernel
theorem dX7_isRow_34 : decode cX7_isRow 34 = .ok (.istore_n 3, 1) := by decide +kernel
theorem dX7_isRow_35 : decode cX7_isRow 35 = .ok (.iconst 0, 1) := by decide +kernel
theorem dX7_isRow_36 : decode cX7_isRow 36 = .ok (.istore 4, 2) := by decide +kernel
theorem dX7_isRow_38 : decode cX7_isRow 38 = .ok (.iload 4, 2) := by decide +kernel
theorem dX7_isRow_40 : decode cX7_isRow 40 = .ok (.iconst 3, 1) := by decide +kernel
theorem dX7_isRow_41 : decode cX7_isRow 41 = .ok (.if_icmp .ge 104, 3) := by decide +kernel
theorem dX7_isRow_44 : decode cX7_isRow 44 = .ok (.iload_n 2, 1) := by decide +kernel
theorem dX7_isRow_45 : decode cX7_isRow 45 = .ok (.iload 4, 2) := by decide +kernel
theorem dX7_isRow_47 : decode cX7_isRow 47 = .ok (.ishr, 1) := by decide +kernel
theorem dX7_isRow_48 : decode cX7_isRow 48 = .ok (.iconst 1, 1) := by decide +kernel
theorem dX7_isRow_49 : decode cX7_isRow 49 = .ok (.iand, 1) := by decide +kernel
theorem dX7_isRow_50 : decode cX7_isRow 50 = .ok (.iconst 1, 1) := by decide +kernel
theorem dX7_isRow_51 : decode cX7_isRow 51 = .ok (.if_icmp .ne 17, 3) := by decide +kernel
theorem dX7_isRow_54 : decode cX7_isRow 54 = .ok (.aload_n 0, 1) := by decide +kernel
theorem dX7_isRow_55 : decode cX7_isRow 55 = .ok (.getfield 48, 3) := by decide +kernel
theorem dX7_isRow_58 : decode cX7_isRow 58 = .ok (.iload 4, 2) := by decide +kernel
theorem dX7_isRow_60 : decode cX7_isRow 60 = .ok (.iaload, 1) := by decide +kernel
theorem dX7_isRow_61 : decode cX7_isRow 61 = .ok (.ifCond .lt 7, 3) := by decide +kernel
theorem dX7_isRow_64 : decode cX7_isRow 64 = .ok (.iconst 1, 1) := by decide +kernel
theorem dX7_isRow_65 : decode cX7_isRow 65 = .ok (.goto 4, 3) := by decide +kernel
theorem dX7_isRow_68 : decode cX7_isRow 68 = .ok (.iconst 0, 1) := by decide +kernel
theorem dX7_isRow_69 : decode cX7_isRow 69 = .ok (.istore 5, 2) := by decide +kernel
theorem dX7_isRow_71 : decode cX7_isRow 71 = .ok (.iload_n 3, 1) := by decide +kernel
theorem dX7_isRow_72 : decode cX7_isRow 72 = .ok (.ifCond .eq 65, 3) := by decide +kernel
theorem dX7_isRow_75 : decode cX7_isRow 75 = .ok (.iload 5, 2) := by decide +kernel
theorem dX7_isRow_77 : decode cX7_isRow 77 = .ok (.ifCond .eq 44, 3) := by decide +kernel
theorem dX7_isRow_80 : decode cX7_isRow 80 = .ok (.aload_n 0, 1) := by decide +kernel
theorem dX7_isRow_81 : decode cX7_isRow 81 = .ok (.getfield 42, 3) := by decide +kernel
theorem dX7_isRow_84 : decode cX7_isRow 84 = .ok (.iload 4, 2) := by decide +kernel
theorem dX7_isRow_86 : decode cX7_isRow 86 = .ok (.iaload, 1) := by decide +kernel
theorem dX7_isRow_87 : decode cX7_isRow 87 = .ok (.aload_n 0, 1) := by decide +kernel
theorem dX7_isRow_88 : decode cX7_isRow 88 = .ok (.getfield 20, 3) := by decide +kernel
theorem dX7_isRow_91 : decode cX7_isRow 91 = .ok (.iconst 0, 1) := by decide +kernel
theorem dX7_isRow_92 : decode cX7_isRow 92 = .ok (.iaload, 1) := by decide +kernel
theorem dX7_isRow_93 : decode cX7_isRow 93 = .ok (.if_icmp .ge 44, 3) := by decide +kernel
theorem dX7_isRow_96 : decode cX7_isRow 96 = .ok (.aload_n 0, 1) := by decide +kernel
theorem dX7_isRow_97 : decode cX7_isRow 97 = .ok (.getfield 29, 3) := by decide +kernel
theorem dX7_isRow_100 : decode cX7_isRow 100 = .ok (.aload_n 0, 1) := by decide +kernel
theorem dX7_isRow_101 : decode cX7_isRow 101 = .ok (.getfield 42, 3) := by decide +kernel
theorem dX7_isRow_104 : decode cX7_isRow 104 = .ok (.iload 4, 2) := by decide +kernel
theorem dX7_isRow_106 : decode cX7_isRow 106 = .ok (.iaload, 1) := by decide +kernel
theorem dX7_isRow_107 : decode cX7_isRow 107 = .ok (.iaload, 1) := by decide +kernel
theorem dX7_isRow_108 : decode cX7_isRow 108 = .ok (.aload_n 0, 1) := by decide +kernel
theorem dX7_isRow_109 : decode cX7_isRow 109 = .ok (.getfield 48, 3) := by decide +kernel
theorem dX7_isRow_112 : decode cX7_isRow 112 = .ok (.iload 4, 2) := by decide +kernel
theorem dX7_isRow_114 : decode cX7_isRow 114 = .ok (.iaload, 1) := by decide +kernel
theorem dX7_isRow_115 : decode cX7_isRow 115 = .ok (.if_icmp .ne 22, 3) := by decide +kernel
theorem dX7_isRow_118 : decode cX7_isRow 118 = .ok (.goto 15, 3) := by decide +kernel
theorem dX7_isRow_121 : decode cX7_isRow 121 = .ok (.aload_n 0, 1) := by decide +kernel
theorem dX7_isRow_122 : decode cX7_isRow 122 = .ok (.getfield 42, 3) := by decide +kernel
theorem dX7_isRow_125 : decode cX7_isRow 125 = .ok (.iload 4, 2) := by decide +kernel
theorem dX7_isRow_127 : decode cX7_isRow 127 = .ok (.iaload, 1) := by decide +kernel
theorem dX7_isRow_128 : decode cX7_isRow 128 = .ok (.bipush 8, 2) := by decide +kernel
theorem dX7_isRow_130 : decode cX7_isRow 130 = .ok (.if_icmp .ne 7, 3) := by decide +kernel
theorem dX7_isRow_133 : decode cX7_isRow 133 = .ok (.iconst 1, 1) := by decide +kernel
theorem dX7_isRow_134 : decode cX7_isRow 134 = .ok (.goto 4, 3) := by decide +kernel
theorem dX7_isRow_137 : decode cX7_isRow 137 = .ok (.iconst 0, 1) := by decide +kernel
theorem dX7_isRow_138 : decode cX7_isRow 138 = .ok (.istore_n 3, 1) := by decide +kernel
theorem dX7_isRow_139 : decode cX7_isRow 139 = .ok (.iinc 4 1, 3) := by decide +kernel
theorem dX7_isRow_142 : decode cX7_isRow 142 = .ok (.goto (-104), 3) := by decide +kernel
theorem dX7_isRow_145 : decode cX7_isRow 145 = .ok (.iload_n 3, 1) := by decide +kernel
theorem dX7_isRow_146 : decode cX7_isRow 146 = .ok (.ireturn, 1) := by decide +kernel
theorem dX7_ask_0 : decode cX7_ask 0 = .ok (.aload_n 0, 1) := by decide +kernel
theorem dX7_ask_1 : decode cX7_ask 1 = .ok (.getfield 48, 3) := by decide +kernel
theorem dX7_ask_4 : decode cX7_ask 4 = .ok (.iconst 0, 1) := by decide +kernel
theorem dX7_ask_5 : decode cX7_ask 5 = .ok (.iload_n 1, 1) := by decide +kernel
theorem dX7_ask_6 : decode cX7_ask 6 = .ok (.iastore, 1) := by decide +kernel
theorem dX7_ask_7 : decode cX7_ask 7 = .ok (.aload_n 0, 1) := by decide +kernel
theorem dX7_ask_8 : decode cX7_ask 8 = .ok (.getfield 48, 3) := by decide +kernel
theorem dX7_ask_11 : decode cX7_ask 11 = .ok (.iconst 1, 1) := by decide +kernel
theorem dX7_ask_12 : decode cX7_ask 12 = .ok (.iload_n 2, 1) := by decide +kernel
theorem dX7_ask_13 : decode cX7_ask 13 = .ok (.iastore, 1) := by decide +kernel
theorem dX7_ask_14 : decode cX7_ask 14 = .ok (.aload_n 0, 1) := by decide +kernel
theorem dX7_ask_15 : decode cX7_ask 15 = .ok (.getfield 48, 3) := by decide +kernel
theorem dX7_ask_18 : decode cX7_ask 18 = .ok (.iconst 2, 1) := by decide +kernel
theorem dX7_ask_19 : decode cX7_ask 19 = .ok (.iload_n 3, 1) := by decide +kernel
theorem dX7_ask_20 : decode cX7_ask 20 = .ok (.iastore, 1) := by decide +kernel
theorem dX7_ask_21 : decode cX7_ask 21 = .ok (.return_, 1) := by decide +kernel
theorem dX7_unitsFor_0 : decode cX7_unitsFor 0 = .ok (.bipush (-9), 2) := by decide +kernel
theorem dX7_unitsFor_2 : decode cX7_unitsFor 2 = .ok (.istore_n 3, 1) := by decide +kernel
theorem dX7_unitsFor_3 : decode cX7_unitsFor 3 = .ok (.iconst 0, 1) := by decide +kernel
theorem dX7_unitsFor_4 : decode cX7_unitsFor 4 = .ok (.istore 4, 2) := by decide +kernel
