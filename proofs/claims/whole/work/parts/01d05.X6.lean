theorem dX6_plume_43 : decode cX6_plume 43 = .ok (.getfield 26, 3) := by decide +kernel
theorem dX6_plume_46 : decode cX6_plume 46 = .ok (.getfield 116, 3) := by decide +kernel
theorem dX6_plume_49 : decode cX6_plume 49 = .ok (.aload_n 0, 1) := by decide +kernel
theorem dX6_plume_50 : decode cX6_plume 50 = .ok (.getfield 33, 3) := by decide +kernel
theorem dX6_plume_53 : decode cX6_plume 53 = .ok (.getfield 143, 3) := by decide +kernel
theorem dX6_plume_56 : decode cX6_plume 56 = .ok (.iload_n 1, 1) := by decide +kernel
theorem dX6_plume_57 : decode cX6_plume 57 = .ok (.iaload, 1) := by decide +kernel
theorem dX6_plume_58 : decode cX6_plume 58 = .ok (.iaload, 1) := by decide +kernel
theorem dX6_plume_59 : decode cX6_plume 59 = .ok (.ireturn, 1) := by decide +kernel
theorem dX6_fog_0 : decode cX6_fog 0 = .ok (.iload_n 1, 1) := by decide +kernel
theorem dX6_fog_1 : decode cX6_fog 1 = .ok (.ifCond .lt 8, 3) := by decide +kernel
theorem dX6_fog_4 : decode cX6_fog 4 = .ok (.iload_n 1, 1) := by decide +kernel
theorem dX6_fog_5 : decode cX6_fog 5 = .ok (.iconst 5, 1) := by decide +kernel
theorem dX6_fog_6 : decode cX6_fog 6 = .ok (.if_icmp .le 5, 3) := by decide +kernel
theorem dX6_fog_9 : decode cX6_fog 9 = .ok (.iconst (-1), 1) := by decide +kernel
theorem dX6_fog_10 : decode cX6_fog 10 = .ok (.ireturn, 1) := by decide +kernel
theorem dX6_fog_11 : decode cX6_fog 11 = .ok (.aload_n 0, 1) := by decide +kernel
theorem dX6_fog_12 : decode cX6_fog 12 = .ok (.getfield 33, 3) := by decide +kernel
theorem dX6_fog_15 : decode cX6_fog 15 = .ok (.getfield 151, 3) := by decide +kernel
theorem dX6_fog_18 : decode cX6_fog 18 = .ok (.istore_n 2, 1) := by decide +kernel
theorem dX6_fog_19 : decode cX6_fog 19 = .ok (.aload_n 0, 1) := by decide +kernel
theorem dX6_fog_20 : decode cX6_fog 20 = .ok (.getfield 33, 3) := by decide +kernel
theorem dX6_fog_23 : decode cX6_fog 23 = .ok (.iload_n 1, 1) := by decide +kernel
theorem dX6_fog_24 : decode cX6_fog 24 = .ok (.putfield 151, 3) := by decide +kernel
theorem dX6_fog_27 : decode cX6_fog 27 = .ok (.iload_n 2, 1) := by decide +kernel
theorem dX6_fog_28 : decode cX6_fog 28 = .ok (.ireturn, 1) := by decide +kernel
theorem dX6_says_0 : decode cX6_says 0 = .ok (.aload_n 0, 1) := by decide +kernel
theorem dX6_says_1 : decode cX6_says 1 = .ok (.getfield 33, 3) := by decide +kernel
theorem dX6_says_4 : decode cX6_says 4 = .ok (.iload_n 1, 1) := by decide +kernel
theorem dX6_says_5 : decode cX6_says 5 = .ok (.invokevirtual 98, 3) := by decide +kernel
theorem dX6_says_8 : decode cX6_says 8 = .ok (.ifCond .eq 25, 3) := by decide +kernel
theorem dX6_says_11 : decode cX6_says 11 = .ok (.iload_n 2, 1) := by decide +kernel
theorem dX6_says_12 : decode cX6_says 12 = .ok (.iload_n 3, 1) := by decide +kernel
theorem dX6_says_13 : decode cX6_says 13 = .ok (.iload 4, 2) := by decide +kernel
theorem dX6_says_15 : decode cX6_says 15 = .ok (.invokestatic 154, 3) := by decide +kernel
theorem dX6_says_18 : decode cX6_says 18 = .ok (.ifCond .eq 15, 3) := by decide +kernel
theorem dX6_says_21 : decode cX6_says 21 = .ok (.iload 5, 2) := by decide +kernel
theorem dX6_says_23 : decode cX6_says 23 = .ok (.iconst (-1), 1) := by decide +kernel
theorem dX6_says_24 : decode cX6_says 24 = .ok (.if_icmp .lt 9, 3) := by decide +kernel
theorem dX6_says_27 : decode cX6_says 27 = .ok (.iload 5, 2) := by decide +kernel
theorem dX6_says_29 : decode cX6_says 29 = .ok (.iconst 3, 1) := by decide +kernel
theorem dX6_says_30 : decode cX6_says 30 = .ok (.if_icmp .lt 5, 3) := by decide +kernel
theorem dX6_says_33 : decode cX6_says 33 = .ok (.iconst (-1), 1) := by decide +kernel
theorem dX6_says_34 : decode cX6_says 34 = .ok (.ireturn, 1) := by decide +kernel
theorem dX6_says_35 : decode cX6_says 35 = .ok (.aload_n 0, 1) := by decide +kernel
theorem dX6_says_36 : decode cX6_says 36 = .ok (.getfield 46, 3) := by decide +kernel
theorem dX6_says_39 : decode cX6_says 39 = .ok (.iload_n 2, 1) := by decide +kernel
theorem dX6_says_40 : decode cX6_says 40 = .ok (.iload_n 3, 1) := by decide +kernel
theorem dX6_says_41 : decode cX6_says 41 = .ok (.iload 4, 2) := by decide +kernel
theorem dX6_says_43 : decode cX6_says 43 = .ok (.invokevirtual 158, 3) := by decide +kernel
theorem dX6_says_46 : decode cX6_says 46 = .ok (.aload_n 0, 1) := by decide +kernel
theorem dX6_says_47 : decode cX6_says 47 = .ok (.getfield 33, 3) := by decide +kernel
theorem dX6_says_50 : decode cX6_says 50 = .ok (.iload_n 1, 1) := by decide +kernel
theorem dX6_says_51 : decode cX6_says 51 = .ok (.aload_n 0, 1) := by decide +kernel
theorem dX6_says_52 : decode cX6_says 52 = .ok (.getfield 46, 3) := by decide +kernel
theorem dX6_says_55 : decode cX6_says 55 = .ok (.getfield 161, 3) := by decide +kernel
theorem dX6_says_58 : decode cX6_says 58 = .ok (.invokevirtual 164, 3) := by decide +kernel
theorem dX6_says_61 : decode cX6_says 61 = .ok (.aload_n 0, 1) := by decide +kernel
theorem dX6_says_62 : decode cX6_says 62 = .ok (.getfield 46, 3) := by decide +kernel
theorem dX6_says_65 : decode cX6_says 65 = .ok (.aload_n 0, 1) := by decide +kernel
theorem dX6_says_66 : decode cX6_says 66 = .ok (.getfield 26, 3) := by decide +kernel
theorem dX6_says_69 : decode cX6_says 69 = .ok (.bipush 7, 2) := by decide +kernel
theorem dX6_says_71 : decode cX6_says 71 = .ok (.invokevirtual 168, 3) := by decide +kernel
theorem dX6_says_74 : decode cX6_says 74 = .ok (.istore 6, 2) := by decide +kernel
theorem dX6_says_76 : decode cX6_says 76 = .ok (.iload 6, 2) := by decide +kernel
theorem dX6_says_78 : decode cX6_says 78 = .ok (.bipush (-9), 2) := by decide +kernel
theorem dX6_says_80 : decode cX6_says 80 = .ok (.if_icmp .ne 6, 3) := by decide +kernel
theorem dX6_says_83 : decode cX6_says 83 = .ok (.bipush (-9), 2) := by decide +kernel
theorem dX6_says_85 : decode cX6_says 85 = .ok (.ireturn, 1) := by decide +kernel
theorem dX6_says_86 : decode cX6_says 86 = .ok (.iload 5, 2) := by decide +kernel
theorem dX6_says_88 : decode cX6_says 88 = .ok (.ifCond .ge 6, 3) := by decide +kernel
theorem dX6_says_91 : decode cX6_says 91 = .ok (.iload 6, 2) := by decide +kernel
theorem dX6_says_93 : decode cX6_says 93 = .ok (.ireturn, 1) := by decide +kernel
theorem dX6_says_94 : decode cX6_says 94 = .ok (.iload 5, 2) := by decide +kernel
theorem dX6_says_96 : decode cX6_says 96 = .ok (.aload_n 0, 1) := by decide +kernel
theorem dX6_says_97 : decode cX6_says 97 = .ok (.getfield 46, 3) := by decide +kernel
theorem dX6_says_100 : decode cX6_says 100 = .ok (.getfield 172, 3) := by decide +kernel
theorem dX6_says_103 : decode cX6_says 103 = .ok (.if_icmp .ge 16, 3) := by decide +kernel
theorem dX6_says_106 : decode cX6_says 106 = .ok (.aload_n 0, 1) := by decide +kernel
theorem dX6_says_107 : decode cX6_says 107 = .ok (.getfield 46, 3) := by decide +kernel
theorem dX6_says_110 : decode cX6_says 110 = .ok (.getfield 175, 3) := by decide +kernel
theorem dX6_says_113 : decode cX6_says 113 = .ok (.iload 5, 2) := by decide +kernel
theorem dX6_says_115 : decode cX6_says 115 = .ok (.iaload, 1) := by decide +kernel
theorem dX6_says_116 : decode cX6_says 116 = .ok (.goto 5, 3) := by decide +kernel
theorem dX6_says_119 : decode cX6_says 119 = .ok (.bipush (-5), 2) := by decide +kernel
theorem dX6_says_121 : decode cX6_says 121 = .ok (.ireturn, 1) := by decide +kernel
theorem dX6_nearest_0 : decode cX6_nearest 0 = .ok (.aload_n 0, 1) := by decide +kernel
theorem dX6_nearest_1 : decode cX6_nearest 1 = .ok (.getfield 33, 3) := by decide +kernel
theorem dX6_nearest_4 : decode cX6_nearest 4 = .ok (.iload_n 1, 1) := by decide +kernel
theorem dX6_nearest_5 : decode cX6_nearest 5 = .ok (.invokevirtual 98, 3) := by decide +kernel
theorem dX6_nearest_8 : decode cX6_nearest 8 = .ok (.ifCond .eq 13, 3) := by decide +kernel
theorem dX6_nearest_11 : decode cX6_nearest 11 = .ok (.iload_n 2, 1) := by decide +kernel
theorem dX6_nearest_12 : decode cX6_nearest 12 = .ok (.iload_n 3, 1) := by decide +kernel
theorem dX6_nearest_13 : decode cX6_nearest 13 = .ok (.iload 4, 2) := by decide +kernel
theorem dX6_nearest_15 : decode cX6_nearest 15 = .ok (.invokestatic 154, 3) := by decide +kernel
theorem dX6_nearest_18 : decode cX6_nearest 18 = .ok (.ifCond .ne 5, 3) := by decide +kernel
theorem dX6_nearest_21 : decode cX6_nearest 21 = .ok (.iconst (-1), 1) := by decide +kernel
theorem dX6_nearest_22 : decode cX6_nearest 22 = .ok (.ireturn, 1) := by decide +kernel
theorem dX6_nearest_23 : decode cX6_nearest 23 = .ok (.aload_n 0, 1) := by decide +kernel
theorem dX6_nearest_24 : decode cX6_nearest 24 = .ok (.getfield 46, 3) := by decide +kernel
theorem dX6_nearest_27 : decode cX6_nearest 27 = .ok (.iload_n 2, 1) := by decide +kernel
theorem dX6_nearest_28 : decode cX6_nearest 28 = .ok (.iload_n 3, 1) := by decide +kernel
theorem dX6_nearest_29 : decode cX6_nearest 29 = .ok (.iload 4, 2) := by decide +kernel
theorem dX6_nearest_31 : decode cX6_nearest 31 = .ok (.invokevirtual 158, 3) := by decide +kernel
theorem dX6_nearest_34 : decode cX6_nearest 34 = .ok (.aload_n 0, 1) := by decide +kernel
theorem dX6_nearest_35 : decode cX6_nearest 35 = .ok (.getfield 33, 3) := by decide +kernel
theorem dX6_nearest_38 : decode cX6_nearest 38 = .ok (.iload_n 1, 1) := by decide +kernel
theorem dX6_nearest_39 : decode cX6_nearest 39 = .ok (.aload_n 0, 1) := by decide +kernel
theorem dX6_nearest_40 : decode cX6_nearest 40 = .ok (.getfield 46, 3) := by decide +kernel
theorem dX6_nearest_43 : decode cX6_nearest 43 = .ok (.getfield 161, 3) := by decide +kernel
theorem dX6_nearest_46 : decode cX6_nearest 46 = .ok (.invokevirtual 164, 3) := by decide +kernel
theorem dX6_nearest_49 : decode cX6_nearest 49 = .ok (.aload_n 0, 1) := by decide +kernel
theorem dX6_nearest_50 : decode cX6_nearest 50 = .ok (.getfield 46, 3) := by decide +kernel
theorem dX6_nearest_53 : decode cX6_nearest 53 = .ok (.aload_n 0, 1) := by decide +kernel
theorem dX6_nearest_54 : decode cX6_nearest 54 = .ok (.getfield 26, 3) := by decide +kernel
theorem dX6_nearest_57 : decode cX6_nearest 57 = .ok (.invokevirtual 178, 3) := by decide +kernel
theorem dX6_nearest_60 : decode cX6_nearest 60 = .ok (.ireturn, 1) := by decide +kernel
theorem dX6_reads_0 : decode cX6_reads 0 = .ok (.iload_n 1, 1) := by decide +kernel
theorem dX6_reads_1 : decode cX6_reads 1 = .ok (.invokestatic 182, 3) := by decide +kernel
theorem dX6_reads_4 : decode cX6_reads 4 = .ok (.ifCond .eq 10, 3) := by decide +kernel
theorem dX6_reads_7 : decode cX6_reads 7 = .ok (.iload_n 2, 1) := by decide +kernel
theorem dX6_reads_8 : decode cX6_reads 8 = .ok (.invokestatic 182, 3) := by decide +kernel
theorem dX6_reads_11 : decode cX6_reads 11 = .ok (.ifCond .ne 5, 3) := by decide +kernel
theorem dX6_reads_14 : decode cX6_reads 14 = .ok (.iconst (-1), 1) := by decide +kernel
theorem dX6_reads_15 : decode cX6_reads 15 = .ok (.ireturn, 1) := by decide +kernel
theorem dX6_reads_16 : decode cX6_reads 16 = .ok (.aload_n 0, 1) := by decide +kernel
theorem dX6_reads_17 : decode cX6_reads 17 = .ok (.getfield 33, 3) := by decide +kernel
theorem dX6_reads_20 : decode cX6_reads 20 = .ok (.iload_n 1, 1) := by decide +kernel
theorem dX6_reads_21 : decode cX6_reads 21 = .ok (.iload_n 2, 1) := by decide +kernel
theorem dX6_reads_22 : decode cX6_reads 22 = .ok (.invokevirtual 185, 3) := by decide +kernel
theorem dX6_reads_25 : decode cX6_reads 25 = .ok (.ireturn, 1) := by decide +kernel
theorem dX6_means_0 : decode cX6_means 0 = .ok (.iload_n 1, 1) := by decide +kernel
theorem dX6_means_1 : decode cX6_means 1 = .ok (.invokestatic 182, 3) := by decide +kernel
theorem dX6_means_4 : decode cX6_means 4 = .ok (.ifCond .ne 5, 3) := by decide +kernel
theorem dX6_means_7 : decode cX6_means 7 = .ok (.iconst (-1), 1) := by decide +kernel
theorem dX6_means_8 : decode cX6_means 8 = .ok (.ireturn, 1) := by decide +kernel
theorem dX6_means_9 : decode cX6_means 9 = .ok (.aload_n 0, 1) := by decide +kernel
theorem dX6_means_10 : decode cX6_means 10 = .ok (.getfield 26, 3) := by decide +kernel
theorem dX6_means_13 : decode cX6_means 13 = .ok (.iload_n 1, 1) := by decide +kernel
theorem dX6_means_14 : decode cX6_means 14 = .ok (.invokevirtual 188, 3) := by decide +kernel
theorem dX6_means_17 : decode cX6_means 17 = .ok (.ireturn, 1) := by decide +kernel
theorem dX6_chain_0 : decode cX6_chain 0 = .ok (.iload_n 1, 1) := by decide +kernel
theorem dX6_chain_1 : decode cX6_chain 1 = .ok (.invokestatic 191, 3) := by decide +kernel
theorem dX6_chain_4 : decode cX6_chain 4 = .ok (.ifCond .eq 22, 3) := by decide +kernel
theorem dX6_chain_7 : decode cX6_chain 7 = .ok (.iload_n 2, 1) := by decide +kernel
theorem dX6_chain_8 : decode cX6_chain 8 = .ok (.iconst 1, 1) := by decide +kernel
theorem dX6_chain_9 : decode cX6_chain 9 = .ok (.if_icmp .lt 17, 3) := by decide +kernel
theorem dX6_chain_12 : decode cX6_chain 12 = .ok (.iload_n 2, 1) := by decide +kernel
theorem dX6_chain_13 : decode cX6_chain 13 = .ok (.iconst 4, 1) := by decide +kernel
theorem dX6_chain_14 : decode cX6_chain 14 = .ok (.if_icmp .gt 12, 3) := by decide +kernel
theorem dX6_chain_17 : decode cX6_chain 17 = .ok (.iload_n 3, 1) := by decide +kernel
theorem dX6_chain_18 : decode cX6_chain 18 = .ok (.ifCond .lt 8, 3) := by decide +kernel
theorem dX6_chain_21 : decode cX6_chain 21 = .ok (.iload_n 3, 1) := by decide +kernel
theorem dX6_chain_22 : decode cX6_chain 22 = .ok (.iconst 1, 1) := by decide +kernel
theorem dX6_chain_23 : decode cX6_chain 23 = .ok (.if_icmp .le 7, 3) := by decide +kernel
theorem dX6_chain_26 : decode cX6_chain 26 = .ok (.ldc2_w 194, 3) := by decide +kernel
theorem dX6_chain_29 : decode cX6_chain 29 = .ok (.lreturn, 1) := by decide +kernel
theorem dX6_chain_30 : decode cX6_chain 30 = .ok (.aload_n 0, 1) := by decide +kernel
theorem dX6_chain_31 : decode cX6_chain 31 = .ok (.getfield 26, 3) := by decide +kernel
theorem dX6_chain_34 : decode cX6_chain 34 = .ok (.iload_n 1, 1) := by decide +kernel
theorem dX6_chain_35 : decode cX6_chain 35 = .ok (.invokevirtual 196, 3) := by decide +kernel
theorem dX6_chain_38 : decode cX6_chain 38 = .ok (.iconst (-1), 1) := by decide +kernel
theorem dX6_chain_39 : decode cX6_chain 39 = .ok (.if_icmp .ne 10, 3) := by decide +kernel
theorem dX6_chain_42 : decode cX6_chain 42 = .ok (.lconst 0, 1) := by decide +kernel
theorem dX6_chain_43 : decode cX6_chain 43 = .ok (.lconst 1, 1) := by decide +kernel
theorem dX6_chain_44 : decode cX6_chain 44 = .ok (.iload_n 3, 1) := by decide +kernel
theorem dX6_chain_45 : decode cX6_chain 45 = .ok (.invokestatic 199, 3) := by decide +kernel
theorem dX6_chain_48 : decode cX6_chain 48 = .ok (.lreturn, 1) := by decide +kernel
theorem dX6_chain_49 : decode cX6_chain 49 = .ok (.aload_n 0, 1) := by decide +kernel
theorem dX6_chain_50 : decode cX6_chain 50 = .ok (.getfield 53, 3) := by decide +kernel
theorem dX6_chain_53 : decode cX6_chain 53 = .ok (.iload_n 1, 1) := by decide +kernel
theorem dX6_chain_54 : decode cX6_chain 54 = .ok (.invokevirtual 203, 3) := by decide +kernel
theorem dX6_chain_57 : decode cX6_chain 57 = .ok (.lconst 1, 1) := by decide +kernel
theorem dX6_chain_58 : decode cX6_chain 58 = .ok (.lstore 4, 2) := by decide +kernel
theorem dX6_chain_60 : decode cX6_chain 60 = .ok (.iconst 0, 1) := by decide +kernel
theorem dX6_chain_61 : decode cX6_chain 61 = .ok (.istore 6, 2) := by decide +kernel
theorem dX6_chain_63 : decode cX6_chain 63 = .ok (.iload 6, 2) := by decide +kernel
theorem dX6_chain_65 : decode cX6_chain 65 = .ok (.iload_n 2, 1) := by decide +kernel
theorem dX6_chain_66 : decode cX6_chain 66 = .ok (.if_icmp .ge 32, 3) := by decide +kernel
theorem dX6_chain_69 : decode cX6_chain 69 = .ok (.aload_n 0, 1) := by decide +kernel
theorem dX6_chain_70 : decode cX6_chain 70 = .ok (.getfield 53, 3) := by decide +kernel
theorem dX6_chain_73 : decode cX6_chain 73 = .ok (.aload_n 0, 1) := by decide +kernel
theorem dX6_chain_74 : decode cX6_chain 74 = .ok (.getfield 26, 3) := by decide +kernel
theorem dX6_chain_77 : decode cX6_chain 77 = .ok (.aload_n 0, 1) := by decide +kernel
theorem dX6_chain_78 : decode cX6_chain 78 = .ok (.getfield 33, 3) := by decide +kernel
theorem dX6_chain_81 : decode cX6_chain 81 = .ok (.invokevirtual 206, 3) := by decide +kernel
theorem dX6_chain_84 : decode cX6_chain 84 = .ok (.lload 4, 2) := by decide +kernel
theorem dX6_chain_86 : decode cX6_chain 86 = .ok (.ldc2_w 210, 3) := by decide +kernel
theorem dX6_chain_89 : decode cX6_chain 89 = .ok (.lmul, 1) := by decide +kernel
theorem dX6_chain_90 : decode cX6_chain 90 = .ok (.lstore 4, 2) := by decide +kernel
theorem dX6_chain_92 : decode cX6_chain 92 = .ok (.iinc 6 1, 3) := by decide +kernel
theorem dX6_chain_95 : decode cX6_chain 95 = .ok (.goto (-32), 3) := by decide +kernel
theorem dX6_chain_98 : decode cX6_chain 98 = .ok (.aload_n 0, 1) := by decide +kernel
theorem dX6_chain_99 : decode cX6_chain 99 = .ok (.getfield 53, 3) := by decide +kernel
theorem dX6_chain_102 : decode cX6_chain 102 = .ok (.getfield 212, 3) := by decide +kernel
theorem dX6_chain_105 : decode cX6_chain 105 = .ok (.iload_n 1, 1) := by decide +kernel
theorem dX6_chain_106 : decode cX6_chain 106 = .ok (.laload, 1) := by decide +kernel
theorem dX6_chain_107 : decode cX6_chain 107 = .ok (.lload 4, 2) := by decide +kernel
theorem dX6_chain_109 : decode cX6_chain 109 = .ok (.iload_n 3, 1) := by decide +kernel
theorem dX6_chain_110 : decode cX6_chain 110 = .ok (.invokestatic 199, 3) := by decide +kernel
theorem dX6_chain_113 : decode cX6_chain 113 = .ok (.lreturn, 1) := by decide +kernel
theorem dX6_who_0 : decode cX6_who 0 = .ok (.iload_n 1, 1) := by decide +kernel
theorem dX6_who_1 : decode cX6_who 1 = .ok (.invokestatic 182, 3) := by decide +kernel
theorem dX6_who_4 : decode cX6_who 4 = .ok (.ifCond .eq 23, 3) := by decide +kernel
theorem dX6_who_7 : decode cX6_who 7 = .ok (.aload_n 0, 1) := by decide +kernel
theorem dX6_who_8 : decode cX6_who 8 = .ok (.getfield 33, 3) := by decide +kernel
theorem dX6_who_11 : decode cX6_who 11 = .ok (.iload_n 2, 1) := by decide +kernel
theorem dX6_who_12 : decode cX6_who 12 = .ok (.invokevirtual 98, 3) := by decide +kernel
theorem dX6_who_15 : decode cX6_who 15 = .ok (.ifCond .eq 12, 3) := by decide +kernel
theorem dX6_who_18 : decode cX6_who 18 = .ok (.iload_n 3, 1) := by decide +kernel
theorem dX6_who_19 : decode cX6_who 19 = .ok (.ifCond .lt 8, 3) := by decide +kernel
theorem dX6_who_22 : decode cX6_who 22 = .ok (.iload_n 3, 1) := by decide +kernel
theorem dX6_who_23 : decode cX6_who 23 = .ok (.iconst 1, 1) := by decide +kernel
theorem dX6_who_24 : decode cX6_who 24 = .ok (.if_icmp .le 5, 3) := by decide +kernel
theorem dX6_who_27 : decode cX6_who 27 = .ok (.iconst (-1), 1) := by decide +kernel
theorem dX6_who_28 : decode cX6_who 28 = .ok (.ireturn, 1) := by decide +kernel
theorem dX6_who_29 : decode cX6_who 29 = .ok (.iconst 0, 1) := by decide +kernel
theorem dX6_who_30 : decode cX6_who 30 = .ok (.istore 4, 2) := by decide +kernel
theorem dX6_who_32 : decode cX6_who 32 = .ok (.iconst 0, 1) := by decide +kernel
theorem dX6_who_33 : decode cX6_who 33 = .ok (.istore 5, 2) := by decide +kernel
theorem dX6_who_35 : decode cX6_who 35 = .ok (.iload 5, 2) := by decide +kernel
theorem dX6_who_37 : decode cX6_who 37 = .ok (.aload_n 0, 1) := by decide +kernel
theorem dX6_who_38 : decode cX6_who 38 = .ok (.getfield 33, 3) := by decide +kernel
theorem dX6_who_41 : decode cX6_who 41 = .ok (.getfield 216, 3) := by decide +kernel
theorem dX6_who_44 : decode cX6_who 44 = .ok (.if_icmp .ge 21, 3) := by decide +kernel
theorem dX6_who_47 : decode cX6_who 47 = .ok (.iload 4, 2) := by decide +kernel
theorem dX6_who_49 : decode cX6_who 49 = .ok (.aload_n 0, 1) := by decide +kernel
theorem dX6_who_50 : decode cX6_who 50 = .ok (.iload 5, 2) := by decide +kernel
theorem dX6_who_52 : decode cX6_who 52 = .ok (.iload_n 1, 1) := by decide +kernel
theorem dX6_who_53 : decode cX6_who 53 = .ok (.invokevirtual 219, 3) := by decide +kernel
theorem dX6_who_56 : decode cX6_who 56 = .ok (.iadd, 1) := by decide +kernel
theorem dX6_who_57 : decode cX6_who 57 = .ok (.istore 4, 2) := by decide +kernel
theorem dX6_who_59 : decode cX6_who 59 = .ok (.iinc 5 1, 3) := by decide +kernel
theorem dX6_who_62 : decode cX6_who 62 = .ok (.goto (-27), 3) := by decide +kernel
theorem dX6_who_65 : decode cX6_who 65 = .ok (.iload 4, 2) := by decide +kernel
theorem dX6_who_67 : decode cX6_who 67 = .ok (.ifCond .ne 6, 3) := by decide +kernel
theorem dX6_who_70 : decode cX6_who 70 = .ok (.bipush (-2), 2) := by decide +kernel
theorem dX6_who_72 : decode cX6_who 72 = .ok (.ireturn, 1) := by decide +kernel
theorem dX6_who_73 : decode cX6_who 73 = .ok (.aload_n 0, 1) := by decide +kernel
theorem dX6_who_74 : decode cX6_who 74 = .ok (.iload_n 2, 1) := by decide +kernel
theorem dX6_who_75 : decode cX6_who 75 = .ok (.iload_n 1, 1) := by decide +kernel
theorem dX6_who_76 : decode cX6_who 76 = .ok (.invokevirtual 219, 3) := by decide +kernel
theorem dX6_who_79 : decode cX6_who 79 = .ok (.i2l, 1) := by decide +kernel
theorem dX6_who_80 : decode cX6_who 80 = .ok (.iload 4, 2) := by decide +kernel
theorem dX6_who_82 : decode cX6_who 82 = .ok (.i2l, 1) := by decide +kernel
theorem dX6_who_83 : decode cX6_who 83 = .ok (.iload_n 3, 1) := by decide +kernel
theorem dX6_who_84 : decode cX6_who 84 = .ok (.invokestatic 199, 3) := by decide +kernel
theorem dX6_who_87 : decode cX6_who 87 = .ok (.l2i, 1) := by decide +kernel
theorem dX6_who_88 : decode cX6_who 88 = .ok (.ireturn, 1) := by decide +kernel
theorem dX6_days_0 : decode cX6_days 0 = .ok (.aload_n 0, 1) := by decide +kernel
theorem dX6_days_1 : decode cX6_days 1 = .ok (.getfield 33, 3) := by decide +kernel
theorem dX6_days_4 : decode cX6_days 4 = .ok (.iload_n 1, 1) := by decide +kernel
theorem dX6_days_5 : decode cX6_days 5 = .ok (.invokevirtual 98, 3) := by decide +kernel
theorem dX6_days_8 : decode cX6_days 8 = .ok (.ifCond .ne 5, 3) := by decide +kernel
theorem dX6_days_11 : decode cX6_days 11 = .ok (.iconst (-1), 1) := by decide +kernel
theorem dX6_days_12 : decode cX6_days 12 = .ok (.ireturn, 1) := by decide +kernel
theorem dX6_days_13 : decode cX6_days 13 = .ok (.aload_n 0, 1) := by decide +kernel
theorem dX6_days_14 : decode cX6_days 14 = .ok (.getfield 33, 3) := by decide +kernel
theorem dX6_days_17 : decode cX6_days 17 = .ok (.iload_n 1, 1) := by decide +kernel
theorem dX6_days_18 : decode cX6_days 18 = .ok (.aload_n 0, 1) := by decide +kernel
theorem dX6_days_19 : decode cX6_days 19 = .ok (.getfield 57, 3) := by decide +kernel
theorem dX6_days_22 : decode cX6_days 22 = .ok (.invokevirtual 164, 3) := by decide +kernel
theorem dX6_days_25 : decode cX6_days 25 = .ok (.iconst 0, 1) := by decide +kernel
theorem dX6_days_26 : decode cX6_days 26 = .ok (.istore_n 2, 1) := by decide +kernel
theorem dX6_days_27 : decode cX6_days 27 = .ok (.iload_n 2, 1) := by decide +kernel
theorem dX6_days_28 : decode cX6_days 28 = .ok (.bipush 30, 2) := by decide +kernel
theorem dX6_days_30 : decode cX6_days 30 = .ok (.if_icmp .ge 40, 3) := by decide +kernel
theorem dX6_days_33 : decode cX6_days 33 = .ok (.aload_n 0, 1) := by decide +kernel
theorem dX6_days_34 : decode cX6_days 34 = .ok (.getfield 26, 3) := by decide +kernel
theorem dX6_days_37 : decode cX6_days 37 = .ok (.aload_n 0, 1) := by decide +kernel
theorem dX6_days_38 : decode cX6_days 38 = .ok (.getfield 57, 3) := by decide +kernel
theorem dX6_days_41 : decode cX6_days 41 = .ok (.invokevirtual 222, 3) := by decide +kernel
theorem dX6_days_44 : decode cX6_days 44 = .ok (.istore_n 3, 1) := by decide +kernel
theorem dX6_days_45 : decode cX6_days 45 = .ok (.iload_n 3, 1) := by decide +kernel
theorem dX6_days_46 : decode cX6_days 46 = .ok (.iconst (-1), 1) := by decide +kernel
theorem dX6_days_47 : decode cX6_days 47 = .ok (.if_icmp .ne 5, 3) := by decide +kernel
theorem dX6_days_50 : decode cX6_days 50 = .ok (.iload_n 2, 1) := by decide +kernel
theorem dX6_days_51 : decode cX6_days 51 = .ok (.ireturn, 1) := by decide +kernel
theorem dX6_days_52 : decode cX6_days 52 = .ok (.aload_n 0, 1) := by decide +kernel
theorem dX6_days_53 : decode cX6_days 53 = .ok (.getfield 26, 3) := by decide +kernel
theorem dX6_days_56 : decode cX6_days 56 = .ok (.iload_n 3, 1) := by decide +kernel
theorem dX6_days_57 : decode cX6_days 57 = .ok (.aload_n 0, 1) := by decide +kernel
theorem dX6_days_58 : decode cX6_days 58 = .ok (.getfield 57, 3) := by decide +kernel
theorem dX6_days_61 : decode cX6_days 61 = .ok (.invokevirtual 226, 3) := by decide +kernel
theorem dX6_days_64 : decode cX6_days 64 = .ok (.iinc 2 1, 3) := by decide +kernel
theorem dX6_days_67 : decode cX6_days 67 = .ok (.goto (-40), 3) := by decide +kernel
theorem dX6_days_70 : decode cX6_days 70 = .ok (.bipush 30, 2) := by decide +kernel
theorem dX6_days_72 : decode cX6_days 72 = .ok (.ireturn, 1) := by decide +kernel
theorem dX6_code_0 : decode cX6_code 0 = .ok (.iload_n 1, 1) := by decide +kernel
theorem dX6_code_1 : decode cX6_code 1 = .ok (.ifCond .lt 29, 3) := by decide +kernel
theorem dX6_code_4 : decode cX6_code 4 = .ok (.iload_n 1, 1) := by decide +kernel
theorem dX6_code_5 : decode cX6_code 5 = .ok (.sipush 256, 3) := by decide +kernel
theorem dX6_code_8 : decode cX6_code 8 = .ok (.if_icmp .ge 22, 3) := by decide +kernel
theorem dX6_code_11 : decode cX6_code 11 = .ok (.iload_n 2, 1) := by decide +kernel
theorem dX6_code_12 : decode cX6_code 12 = .ok (.iconst 1, 1) := by decide +kernel
theorem dX6_code_13 : decode cX6_code 13 = .ok (.if_icmp .lt 17, 3) := by decide +kernel
theorem dX6_code_16 : decode cX6_code 16 = .ok (.iload_n 2, 1) := by decide +kernel
theorem dX6_code_17 : decode cX6_code 17 = .ok (.iconst 3, 1) := by decide +kernel
theorem dX6_code_18 : decode cX6_code 18 = .ok (.if_icmp .gt 12, 3) := by decide +kernel
theorem dX6_code_21 : decode cX6_code 21 = .ok (.iload_n 3, 1) := by decide +kernel
theorem dX6_code_22 : decode cX6_code 22 = .ok (.ifCond .lt 8, 3) := by decide +kernel
theorem dX6_code_25 : decode cX6_code 25 = .ok (.iload_n 3, 1) := by decide +kernel
theorem dX6_code_26 : decode cX6_code 26 = .ok (.iconst 1, 1) := by decide +kernel
theorem dX6_code_27 : decode cX6_code 27 = .ok (.if_icmp .le 5, 3) := by decide +kernel
theorem dX6_code_30 : decode cX6_code 30 = .ok (.iconst (-1), 1) := by decide +kernel
theorem dX6_code_31 : decode cX6_code 31 = .ok (.ireturn, 1) := by decide +kernel
theorem dX6_code_32 : decode cX6_code 32 = .ok (.iload_n 1, 1) := by decide +kernel
theorem dX6_code_33 : decode cX6_code 33 = .ok (.invokestatic 229, 3) := by decide +kernel
theorem dX6_code_36 : decode cX6_code 36 = .ok (.istore 4, 2) := by decide +kernel
theorem dX6_code_38 : decode cX6_code 38 = .ok (.iconst 0, 1) := by decide +kernel
theorem dX6_code_39 : decode cX6_code 39 = .ok (.istore 5, 2) := by decide +kernel
theorem dX6_code_41 : decode cX6_code 41 = .ok (.iconst 0, 1) := by decide +kernel
theorem dX6_code_42 : decode cX6_code 42 = .ok (.istore 6, 2) := by decide +kernel
theorem dX6_code_44 : decode cX6_code 44 = .ok (.iload 6, 2) := by decide +kernel
theorem dX6_code_46 : decode cX6_code 46 = .ok (.iconst 1, 1) := by decide +kernel
theorem dX6_code_47 : decode cX6_code 47 = .ok (.aload_n 0, 1) := by decide +kernel
theorem dX6_code_48 : decode cX6_code 48 = .ok (.getfield 26, 3) := by decide +kernel
theorem dX6_code_51 : decode cX6_code 51 = .ok (.getfield 234, 3) := by decide +kernel
theorem dX6_code_54 : decode cX6_code 54 = .ok (.ishl, 1) := by decide +kernel
theorem dX6_code_55 : decode cX6_code 55 = .ok (.if_icmp .ge 63, 3) := by decide +kernel
theorem dX6_code_58 : decode cX6_code 58 = .ok (.iload 6, 2) := by decide +kernel
theorem dX6_code_60 : decode cX6_code 60 = .ok (.invokestatic 229, 3) := by decide +kernel
theorem dX6_code_63 : decode cX6_code 63 = .ok (.istore 7, 2) := by decide +kernel
theorem dX6_code_65 : decode cX6_code 65 = .ok (.iload 7, 2) := by decide +kernel
theorem dX6_code_67 : decode cX6_code 67 = .ok (.iload 4, 2) := by decide +kernel
theorem dX6_code_69 : decode cX6_code 69 = .ok (.if_icmp .gt 43, 3) := by decide +kernel
theorem dX6_code_72 : decode cX6_code 72 = .ok (.aload_n 0, 1) := by decide +kernel
theorem dX6_code_73 : decode cX6_code 73 = .ok (.getfield 26, 3) := by decide +kernel
theorem dX6_code_76 : decode cX6_code 76 = .ok (.iload 6, 2) := by decide +kernel
theorem dX6_code_78 : decode cX6_code 78 = .ok (.iload_n 1, 1) := by decide +kernel
theorem dX6_code_79 : decode cX6_code 79 = .ok (.iload_n 2, 1) := by decide +kernel
theorem dX6_code_80 : decode cX6_code 80 = .ok (.invokevirtual 237, 3) := by decide +kernel
theorem dX6_code_83 : decode cX6_code 83 = .ok (.ifCond .ne 6, 3) := by decide +kernel
theorem dX6_code_86 : decode cX6_code 86 = .ok (.goto 26, 3) := by decide +kernel
theorem dX6_code_89 : decode cX6_code 89 = .ok (.iload_n 3, 1) := by decide +kernel
theorem dX6_code_90 : decode cX6_code 90 = .ok (.ifCond .ne 13, 3) := by decide +kernel
theorem dX6_code_93 : decode cX6_code 93 = .ok (.iload 7, 2) := by decide +kernel
theorem dX6_code_95 : decode cX6_code 95 = .ok (.iload 4, 2) := by decide +kernel
theorem dX6_code_97 : decode cX6_code 97 = .ok (.if_icmp .ne 6, 3) := by decide +kernel
theorem dX6_code_100 : decode cX6_code 100 = .ok (.iload 6, 2) := by decide +kernel
theorem dX6_code_102 : decode cX6_code 102 = .ok (.ireturn, 1) := by decide +kernel
theorem dX6_code_103 : decode cX6_code 103 = .ok (.iload 5, 2) := by decide +kernel
theorem dX6_code_105 : decode cX6_code 105 = .ok (.iload 7, 2) := by decide +kernel
theorem dX6_code_107 : decode cX6_code 107 = .ok (.invokestatic 240, 3) := by decide +kernel
theorem dX6_code_110 : decode cX6_code 110 = .ok (.istore 5, 2) := by decide +kernel
theorem dX6_code_112 : decode cX6_code 112 = .ok (.iinc 6 1, 3) := by decide +kernel
theorem dX6_code_115 : decode cX6_code 115 = .ok (.goto (-71), 3) := by decide +kernel
theorem dX6_code_118 : decode cX6_code 118 = .ok (.iload_n 3, 1) := by decide +kernel
theorem dX6_code_119 : decode cX6_code 119 = .ok (.ifCond .ne 8, 3) := by decide +kernel
theorem dX6_code_122 : decode cX6_code 122 = .ok (.bipush (-9), 2) := by decide +kernel
theorem dX6_code_124 : decode cX6_code 124 = .ok (.goto 5, 3) := by decide +kernel
theorem dX6_code_127 : decode cX6_code 127 = .ok (.iload 5, 2) := by decide +kernel
theorem dX6_code_129 : decode cX6_code 129 = .ok (.ireturn, 1) := by decide +kernel
theorem dX6_feast_0 : decode cX6_feast 0 = .ok (.iload_n 1, 1) := by decide +kernel
theorem dX6_feast_1 : decode cX6_feast 1 = .ok (.iconst 1, 1) := by decide +kernel
theorem dX6_feast_2 : decode cX6_feast 2 = .ok (.aload_n 0, 1) := by decide +kernel
theorem dX6_feast_3 : decode cX6_feast 3 = .ok (.getfield 26, 3) := by decide +kernel
theorem dX6_feast_6 : decode cX6_feast 6 = .ok (.getfield 234, 3) := by decide +kernel
theorem dX6_feast_9 : decode cX6_feast 9 = .ok (.ishl, 1) := by decide +kernel
theorem dX6_feast_10 : decode cX6_feast 10 = .ok (.iconst 1, 1) := by decide +kernel
theorem dX6_feast_11 : decode cX6_feast 11 = .ok (.isub, 1) := by decide +kernel
theorem dX6_feast_12 : decode cX6_feast 12 = .ok (.iand, 1) := by decide +kernel
theorem dX6_feast_13 : decode cX6_feast 13 = .ok (.istore_n 3, 1) := by decide +kernel
theorem dX6_feast_14 : decode cX6_feast 14 = .ok (.iload_n 3, 1) := by decide +kernel
theorem dX6_feast_15 : decode cX6_feast 15 = .ok (.ifCond .eq 12, 3) := by decide +kernel
theorem dX6_feast_18 : decode cX6_feast 18 = .ok (.iload_n 2, 1) := by decide +kernel
theorem dX6_feast_19 : decode cX6_feast 19 = .ok (.ifCond .lt 8, 3) := by decide +kernel
theorem dX6_feast_22 : decode cX6_feast 22 = .ok (.iload_n 2, 1) := by decide +kernel
theorem dX6_feast_23 : decode cX6_feast 23 = .ok (.iconst 2, 1) := by decide +kernel
theorem dX6_feast_24 : decode cX6_feast 24 = .ok (.if_icmp .le 5, 3) := by decide +kernel
theorem dX6_feast_27 : decode cX6_feast 27 = .ok (.iconst (-1), 1) := by decide +kernel
theorem dX6_feast_28 : decode cX6_feast 28 = .ok (.ireturn, 1) := by decide +kernel
theorem dX6_feast_29 : decode cX6_feast 29 = .ok (.aload_n 0, 1) := by decide +kernel
theorem dX6_feast_30 : decode cX6_feast 30 = .ok (.getfield 26, 3) := by decide +kernel
theorem dX6_feast_33 : decode cX6_feast 33 = .ok (.iload_n 3, 1) := by decide +kernel
theorem dX6_feast_34 : decode cX6_feast 34 = .ok (.invokevirtual 243, 3) := by decide +kernel
theorem dX6_feast_37 : decode cX6_feast 37 = .ok (.istore 4, 2) := by decide +kernel
theorem dX6_feast_39 : decode cX6_feast 39 = .ok (.iload_n 2, 1) := by decide +kernel
theorem dX6_feast_40 : decode cX6_feast 40 = .ok (.ifCond .ne 6, 3) := by decide +kernel
theorem dX6_feast_43 : decode cX6_feast 43 = .ok (.iload 4, 2) := by decide +kernel
theorem dX6_feast_45 : decode cX6_feast 45 = .ok (.ireturn, 1) := by decide +kernel
theorem dX6_feast_46 : decode cX6_feast 46 = .ok (.aload_n 0, 1) := by decide +kernel
theorem dX6_feast_47 : decode cX6_feast 47 = .ok (.getfield 26, 3) := by decide +kernel
theorem dX6_feast_50 : decode cX6_feast 50 = .ok (.iload 4, 2) := by decide +kernel
theorem dX6_feast_52 : decode cX6_feast 52 = .ok (.invokevirtual 188, 3) := by decide +kernel
theorem dX6_feast_55 : decode cX6_feast 55 = .ok (.istore 5, 2) := by decide +kernel
theorem dX6_feast_57 : decode cX6_feast 57 = .ok (.iload_n 2, 1) := by decide +kernel
theorem dX6_feast_58 : decode cX6_feast 58 = .ok (.iconst 1, 1) := by decide +kernel
theorem dX6_feast_59 : decode cX6_feast 59 = .ok (.if_icmp .eq 10, 3) := by decide +kernel
theorem dX6_feast_62 : decode cX6_feast 62 = .ok (.iload 5, 2) := by decide +kernel
theorem dX6_feast_64 : decode cX6_feast 64 = .ok (.bipush (-9), 2) := by decide +kernel
theorem dX6_feast_66 : decode cX6_feast 66 = .ok (.if_icmp .ne 6, 3) := by decide +kernel
theorem dX6_feast_69 : decode cX6_feast 69 = .ok (.iload 5, 2) := by decide +kernel
theorem dX6_feast_71 : decode cX6_feast 71 = .ok (.ireturn, 1) := by decide +kernel
theorem dX6_feast_72 : decode cX6_feast 72 = .ok (.aload_n 0, 1) := by decide +kernel
theorem dX6_feast_73 : decode cX6_feast 73 = .ok (.getfield 26, 3) := by decide +kernel
theorem dX6_feast_76 : decode cX6_feast 76 = .ok (.iload_n 3, 1) := by decide +kernel
theorem dX6_feast_77 : decode cX6_feast 77 = .ok (.iload 5, 2) := by decide +kernel
theorem dX6_feast_79 : decode cX6_feast 79 = .ok (.invokevirtual 246, 3) := by decide +kernel
theorem dX6_feast_82 : decode cX6_feast 82 = .ok (.ifCond .eq 7, 3) := by decide +kernel
theorem dX6_feast_85 : decode cX6_feast 85 = .ok (.iconst 0, 1) := by decide +kernel
theorem dX6_feast_86 : decode cX6_feast 86 = .ok (.goto 4, 3) := by decide +kernel
theorem dX6_feast_89 : decode cX6_feast 89 = .ok (.iconst 1, 1) := by decide +kernel
theorem dX6_feast_90 : decode cX6_feast 90 = .ok (.ireturn, 1) := by decide +kernel
theorem dX6_silent_0 : decode cX6_silent 0 = .ok (.iload_n 1, 1) := by decide +kernel
theorem dX6_silent_1 : decode cX6_silent 1 = .ok (.iconst 1, 1) := by decide +kernel
theorem dX6_silent_2 : decode cX6_silent 2 = .ok (.if_icmp .lt 9, 3) := by decide +kernel
theorem dX6_silent_5 : decode cX6_silent 5 = .ok (.iload_n 1, 1) := by decide +kernel
theorem dX6_silent_6 : decode cX6_silent 6 = .ok (.bipush 20, 2) := by decide +kernel
theorem dX6_silent_8 : decode cX6_silent 8 = .ok (.if_icmp .le 5, 3) := by decide +kernel
theorem dX6_silent_11 : decode cX6_silent 11 = .ok (.iconst (-1), 1) := by decide +kernel
theorem dX6_silent_12 : decode cX6_silent 12 = .ok (.ireturn, 1) := by decide +kernel
theorem dX6_silent_13 : decode cX6_silent 13 = .ok (.iconst 1, 1) := by decide +kernel
theorem dX6_silent_14 : decode cX6_silent 14 = .ok (.aload_n 0, 1) := by decide +kernel
theorem dX6_silent_15 : decode cX6_silent 15 = .ok (.getfield 33, 3) := by decide +kernel
theorem dX6_silent_18 : decode cX6_silent 18 = .ok (.getfield 216, 3) := by decide +kernel
theorem dX6_silent_21 : decode cX6_silent 21 = .ok (.ishl, 1) := by decide +kernel
theorem dX6_silent_22 : decode cX6_silent 22 = .ok (.iconst 1, 1) := by decide +kernel
theorem dX6_silent_23 : decode cX6_silent 23 = .ok (.isub, 1) := by decide +kernel
theorem dX6_silent_24 : decode cX6_silent 24 = .ok (.istore_n 2, 1) := by decide +kernel
theorem dX6_silent_25 : decode cX6_silent 25 = .ok (.iconst 0, 1) := by decide +kernel
theorem dX6_silent_26 : decode cX6_silent 26 = .ok (.aload_n 0, 1) := by decide +kernel
theorem dX6_silent_27 : decode cX6_silent 27 = .ok (.getfield 33, 3) := by decide +kernel
theorem dX6_silent_30 : decode cX6_silent 30 = .ok (.getfield 129, 3) := by decide +kernel
theorem dX6_silent_33 : decode cX6_silent 33 = .ok (.iload_n 1, 1) := by decide +kernel
theorem dX6_silent_34 : decode cX6_silent 34 = .ok (.isub, 1) := by decide +kernel
theorem dX6_silent_35 : decode cX6_silent 35 = .ok (.invokestatic 240, 3) := by decide +kernel
theorem dX6_silent_38 : decode cX6_silent 38 = .ok (.istore_n 3, 1) := by decide +kernel
theorem dX6_silent_39 : decode cX6_silent 39 = .ok (.iload_n 3, 1) := by decide +kernel
theorem dX6_silent_40 : decode cX6_silent 40 = .ok (.aload_n 0, 1) := by decide +kernel
theorem dX6_silent_41 : decode cX6_silent 41 = .ok (.getfield 33, 3) := by decide +kernel
theorem dX6_silent_44 : decode cX6_silent 44 = .ok (.getfield 129, 3) := by decide +kernel
theorem dX6_silent_47 : decode cX6_silent 47 = .ok (.if_icmp .ge 25, 3) := by decide +kernel
theorem dX6_silent_50 : decode cX6_silent 50 = .ok (.iload_n 2, 1) := by decide +kernel
theorem dX6_silent_51 : decode cX6_silent 51 = .ok (.iconst 1, 1) := by decide +kernel
theorem dX6_silent_52 : decode cX6_silent 52 = .ok (.aload_n 0, 1) := by decide +kernel
theorem dX6_silent_53 : decode cX6_silent 53 = .ok (.getfield 33, 3) := by decide +kernel
theorem dX6_silent_56 : decode cX6_silent 56 = .ok (.getfield 140, 3) := by decide +kernel
theorem dX6_silent_59 : decode cX6_silent 59 = .ok (.iload_n 3, 1) := by decide +kernel
theorem dX6_silent_60 : decode cX6_silent 60 = .ok (.iaload, 1) := by decide +kernel
theorem dX6_silent_61 : decode cX6_silent 61 = .ok (.ishl, 1) := by decide +kernel
theorem dX6_silent_62 : decode cX6_silent 62 = .ok (.iconst (-1), 1) := by decide +kernel
theorem dX6_silent_63 : decode cX6_silent 63 = .ok (.ixor, 1) := by decide +kernel
theorem dX6_silent_64 : decode cX6_silent 64 = .ok (.iand, 1) := by decide +kernel
theorem dX6_silent_65 : decode cX6_silent 65 = .ok (.istore_n 2, 1) := by decide +kernel
theorem dX6_silent_66 : decode cX6_silent 66 = .ok (.iinc 3 1, 3) := by decide +kernel
theorem dX6_silent_69 : decode cX6_silent 69 = .ok (.goto (-30), 3) := by decide +kernel
theorem dX6_silent_72 : decode cX6_silent 72 = .ok (.iload_n 2, 1) := by decide +kernel
theorem dX6_silent_73 : decode cX6_silent 73 = .ok (.ireturn, 1) := by decide +kernel
theorem dX6_drawn_0 : decode cX6_drawn 0 = .ok (.iload_n 1, 1) := by decide +kernel
