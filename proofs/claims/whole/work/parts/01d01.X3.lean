theorem dX1_tellsApart_35 : decode cX1_tellsApart 35 = .ok (.iaload, 1) := by decide +kernel
theorem dX1_tellsApart_36 : decode cX1_tellsApart 36 = .ok (.invokestatic 36, 3) := by decide +kernel
theorem dX1_tellsApart_39 : decode cX1_tellsApart 39 = .ok (.ifCond .eq 14, 3) := by decide +kernel
theorem dX1_tellsApart_42 : decode cX1_tellsApart 42 = .ok (.aload_n 0, 1) := by decide +kernel
theorem dX1_tellsApart_43 : decode cX1_tellsApart 43 = .ok (.iload_n 1, 1) := by decide +kernel
theorem dX1_tellsApart_44 : decode cX1_tellsApart 44 = .ok (.iload 5, 2) := by decide +kernel
theorem dX1_tellsApart_46 : decode cX1_tellsApart 46 = .ok (.iload_n 3, 1) := by decide +kernel
theorem dX1_tellsApart_47 : decode cX1_tellsApart 47 = .ok (.invokevirtual 40, 3) := by decide +kernel
theorem dX1_tellsApart_50 : decode cX1_tellsApart 50 = .ok (.ifCond .ne 5, 3) := by decide +kernel
theorem dX1_tellsApart_53 : decode cX1_tellsApart 53 = .ok (.iconst 0, 1) := by decide +kernel
theorem dX1_tellsApart_54 : decode cX1_tellsApart 54 = .ok (.ireturn, 1) := by decide +kernel
theorem dX1_tellsApart_55 : decode cX1_tellsApart 55 = .ok (.iload 4, 2) := by decide +kernel
theorem dX1_tellsApart_57 : decode cX1_tellsApart 57 = .ok (.iconst 1, 1) := by decide +kernel
theorem dX1_tellsApart_58 : decode cX1_tellsApart 58 = .ok (.aload_n 0, 1) := by decide +kernel
theorem dX1_tellsApart_59 : decode cX1_tellsApart 59 = .ok (.getfield 21, 3) := by decide +kernel
theorem dX1_tellsApart_62 : decode cX1_tellsApart 62 = .ok (.iload 5, 2) := by decide +kernel
theorem dX1_tellsApart_64 : decode cX1_tellsApart 64 = .ok (.iaload, 1) := by decide +kernel
theorem dX1_tellsApart_65 : decode cX1_tellsApart 65 = .ok (.ishl, 1) := by decide +kernel
theorem dX1_tellsApart_66 : decode cX1_tellsApart 66 = .ok (.iconst (-1), 1) := by decide +kernel
theorem dX1_tellsApart_67 : decode cX1_tellsApart 67 = .ok (.ixor, 1) := by decide +kernel
theorem dX1_tellsApart_68 : decode cX1_tellsApart 68 = .ok (.iand, 1) := by decide +kernel
theorem dX1_tellsApart_69 : decode cX1_tellsApart 69 = .ok (.istore 4, 2) := by decide +kernel
theorem dX1_tellsApart_71 : decode cX1_tellsApart 71 = .ok (.iinc 5 1, 3) := by decide +kernel
theorem dX1_tellsApart_74 : decode cX1_tellsApart 74 = .ok (.goto (-68), 3) := by decide +kernel
theorem dX1_tellsApart_77 : decode cX1_tellsApart 77 = .ok (.iconst 1, 1) := by decide +kernel
theorem dX1_tellsApart_78 : decode cX1_tellsApart 78 = .ok (.ireturn, 1) := by decide +kernel
theorem dX1_standsOff_0 : decode cX1_standsOff 0 = .ok (.iconst 0, 1) := by decide +kernel
theorem dX1_standsOff_1 : decode cX1_standsOff 1 = .ok (.istore 4, 2) := by decide +kernel
theorem dX1_standsOff_3 : decode cX1_standsOff 3 = .ok (.iload 4, 2) := by decide +kernel
theorem dX1_standsOff_5 : decode cX1_standsOff 5 = .ok (.iload_n 2, 1) := by decide +kernel
theorem dX1_standsOff_6 : decode cX1_standsOff 6 = .ok (.if_icmp .ge 41, 3) := by decide +kernel
theorem dX1_standsOff_9 : decode cX1_standsOff 9 = .ok (.iload_n 1, 1) := by decide +kernel
theorem dX1_standsOff_10 : decode cX1_standsOff 10 = .ok (.iload 4, 2) := by decide +kernel
theorem dX1_standsOff_12 : decode cX1_standsOff 12 = .ok (.invokestatic 36, 3) := by decide +kernel
theorem dX1_standsOff_15 : decode cX1_standsOff 15 = .ok (.ifCond .eq 26, 3) := by decide +kernel
theorem dX1_standsOff_18 : decode cX1_standsOff 18 = .ok (.aload_n 0, 1) := by decide +kernel
theorem dX1_standsOff_19 : decode cX1_standsOff 19 = .ok (.getfield 18, 3) := by decide +kernel
theorem dX1_standsOff_22 : decode cX1_standsOff 22 = .ok (.iload 4, 2) := by decide +kernel
theorem dX1_standsOff_24 : decode cX1_standsOff 24 = .ok (.iaload, 1) := by decide +kernel
theorem dX1_standsOff_25 : decode cX1_standsOff 25 = .ok (.aload_n 0, 1) := by decide +kernel
theorem dX1_standsOff_26 : decode cX1_standsOff 26 = .ok (.getfield 18, 3) := by decide +kernel
theorem dX1_standsOff_29 : decode cX1_standsOff 29 = .ok (.iload_n 2, 1) := by decide +kernel
theorem dX1_standsOff_30 : decode cX1_standsOff 30 = .ok (.iaload, 1) := by decide +kernel
theorem dX1_standsOff_31 : decode cX1_standsOff 31 = .ok (.ixor, 1) := by decide +kernel
theorem dX1_standsOff_32 : decode cX1_standsOff 32 = .ok (.invokestatic 44, 3) := by decide +kernel
theorem dX1_standsOff_35 : decode cX1_standsOff 35 = .ok (.iload_n 3, 1) := by decide +kernel
theorem dX1_standsOff_36 : decode cX1_standsOff 36 = .ok (.if_icmp .ge 5, 3) := by decide +kernel
theorem dX1_standsOff_39 : decode cX1_standsOff 39 = .ok (.iconst 0, 1) := by decide +kernel
theorem dX1_standsOff_40 : decode cX1_standsOff 40 = .ok (.ireturn, 1) := by decide +kernel
theorem dX1_standsOff_41 : decode cX1_standsOff 41 = .ok (.iinc 4 1, 3) := by decide +kernel
theorem dX1_standsOff_44 : decode cX1_standsOff 44 = .ok (.goto (-41), 3) := by decide +kernel
theorem dX1_standsOff_47 : decode cX1_standsOff 47 = .ok (.iconst 1, 1) := by decide +kernel
theorem dX1_standsOff_48 : decode cX1_standsOff 48 = .ok (.ireturn, 1) := by decide +kernel
theorem dX1_holds_0 : decode cX1_holds 0 = .ok (.iload_n 0, 1) := by decide +kernel
theorem dX1_holds_1 : decode cX1_holds 1 = .ok (.iload_n 1, 1) := by decide +kernel
theorem dX1_holds_2 : decode cX1_holds 2 = .ok (.ishr, 1) := by decide +kernel
theorem dX1_holds_3 : decode cX1_holds 3 = .ok (.iconst 1, 1) := by decide +kernel
theorem dX1_holds_4 : decode cX1_holds 4 = .ok (.iand, 1) := by decide +kernel
theorem dX1_holds_5 : decode cX1_holds 5 = .ok (.ifCond .eq 7, 3) := by decide +kernel
theorem dX1_holds_8 : decode cX1_holds 8 = .ok (.iconst 1, 1) := by decide +kernel
theorem dX1_holds_9 : decode cX1_holds 9 = .ok (.goto 4, 3) := by decide +kernel
theorem dX1_holds_12 : decode cX1_holds 12 = .ok (.iconst 0, 1) := by decide +kernel
theorem dX1_holds_13 : decode cX1_holds 13 = .ok (.ireturn, 1) := by decide +kernel
theorem dX2_init_0 : decode cX2_init 0 = .ok (.aload_n 0, 1) := by decide +kernel
theorem dX2_init_1 : decode cX2_init 1 = .ok (.invokespecial 3, 3) := by decide +kernel
theorem dX2_init_4 : decode cX2_init 4 = .ok (.aload_n 0, 1) := by decide +kernel
theorem dX2_init_5 : decode cX2_init 5 = .ok (.iconst 3, 1) := by decide +kernel
theorem dX2_init_6 : decode cX2_init 6 = .ok (.newarray .int, 2) := by decide +kernel
theorem dX2_init_8 : decode cX2_init 8 = .ok (.putfield 9, 3) := by decide +kernel
theorem dX2_init_11 : decode cX2_init 11 = .ok (.aload_n 0, 1) := by decide +kernel
theorem dX2_init_12 : decode cX2_init 12 = .ok (.iconst 3, 1) := by decide +kernel
theorem dX2_init_13 : decode cX2_init 13 = .ok (.newarray .int, 2) := by decide +kernel
theorem dX2_init_15 : decode cX2_init 15 = .ok (.putfield 15, 3) := by decide +kernel
theorem dX2_init_18 : decode cX2_init 18 = .ok (.aload_n 0, 1) := by decide +kernel
theorem dX2_init_19 : decode cX2_init 19 = .ok (.iconst 3, 1) := by decide +kernel
theorem dX2_init_20 : decode cX2_init 20 = .ok (.newarray .int, 2) := by decide +kernel
theorem dX2_init_22 : decode cX2_init 22 = .ok (.putfield 18, 3) := by decide +kernel
theorem dX2_init_25 : decode cX2_init 25 = .ok (.aload_n 0, 1) := by decide +kernel
theorem dX2_init_26 : decode cX2_init 26 = .ok (.iconst 5, 1) := by decide +kernel
theorem dX2_init_27 : decode cX2_init 27 = .ok (.newarray .int, 2) := by decide +kernel
theorem dX2_init_29 : decode cX2_init 29 = .ok (.putfield 21, 3) := by decide +kernel
theorem dX2_init_32 : decode cX2_init 32 = .ok (.return_, 1) := by decide +kernel
theorem dX2_hear_0 : decode cX2_hear 0 = .ok (.aload_n 0, 1) := by decide +kernel
theorem dX2_hear_1 : decode cX2_hear 1 = .ok (.getfield 9, 3) := by decide +kernel
theorem dX2_hear_4 : decode cX2_hear 4 = .ok (.iconst 0, 1) := by decide +kernel
theorem dX2_hear_5 : decode cX2_hear 5 = .ok (.iload_n 1, 1) := by decide +kernel
theorem dX2_hear_6 : decode cX2_hear 6 = .ok (.iastore, 1) := by decide +kernel
theorem dX2_hear_7 : decode cX2_hear 7 = .ok (.aload_n 0, 1) := by decide +kernel
theorem dX2_hear_8 : decode cX2_hear 8 = .ok (.getfield 9, 3) := by decide +kernel
theorem dX2_hear_11 : decode cX2_hear 11 = .ok (.iconst 1, 1) := by decide +kernel
theorem dX2_hear_12 : decode cX2_hear 12 = .ok (.iload_n 2, 1) := by decide +kernel
theorem dX2_hear_13 : decode cX2_hear 13 = .ok (.iastore, 1) := by decide +kernel
theorem dX2_hear_14 : decode cX2_hear 14 = .ok (.aload_n 0, 1) := by decide +kernel
theorem dX2_hear_15 : decode cX2_hear 15 = .ok (.getfield 9, 3) := by decide +kernel
theorem dX2_hear_18 : decode cX2_hear 18 = .ok (.iconst 2, 1) := by decide +kernel
theorem dX2_hear_19 : decode cX2_hear 19 = .ok (.iload_n 3, 1) := by decide +kernel
theorem dX2_hear_20 : decode cX2_hear 20 = .ok (.iastore, 1) := by decide +kernel
theorem dX2_hear_21 : decode cX2_hear 21 = .ok (.aload_n 0, 1) := by decide +kernel
theorem dX2_hear_22 : decode cX2_hear 22 = .ok (.iload_n 2, 1) := by decide +kernel
theorem dX2_hear_23 : decode cX2_hear 23 = .ok (.iconst (-1), 1) := by decide +kernel
theorem dX2_hear_24 : decode cX2_hear 24 = .ok (.if_icmp .ne 7, 3) := by decide +kernel
theorem dX2_hear_27 : decode cX2_hear 27 = .ok (.iconst 1, 1) := by decide +kernel
theorem dX2_hear_28 : decode cX2_hear 28 = .ok (.goto 13, 3) := by decide +kernel
theorem dX2_hear_31 : decode cX2_hear 31 = .ok (.iload_n 3, 1) := by decide +kernel
theorem dX2_hear_32 : decode cX2_hear 32 = .ok (.iconst (-1), 1) := by decide +kernel
theorem dX2_hear_33 : decode cX2_hear 33 = .ok (.if_icmp .ne 7, 3) := by decide +kernel
theorem dX2_hear_36 : decode cX2_hear 36 = .ok (.iconst 2, 1) := by decide +kernel
theorem dX2_hear_37 : decode cX2_hear 37 = .ok (.goto 4, 3) := by decide +kernel
theorem dX2_hear_40 : decode cX2_hear 40 = .ok (.iconst 3, 1) := by decide +kernel
theorem dX2_hear_41 : decode cX2_hear 41 = .ok (.putfield 24, 3) := by decide +kernel
theorem dX2_hear_44 : decode cX2_hear 44 = .ok (.return_, 1) := by decide +kernel
theorem dX2_fewestUnits_0 : decode cX2_fewestUnits 0 = .ok (.aload_n 0, 1) := by decide +kernel
theorem dX2_fewestUnits_1 : decode cX2_fewestUnits 1 = .ok (.bipush (-9), 2) := by decide +kernel
theorem dX2_fewestUnits_3 : decode cX2_fewestUnits 3 = .ok (.putfield 28, 3) := by decide +kernel
theorem dX2_fewestUnits_6 : decode cX2_fewestUnits 6 = .ok (.aload_n 0, 1) := by decide +kernel
theorem dX2_fewestUnits_7 : decode cX2_fewestUnits 7 = .ok (.aload_n 1, 1) := by decide +kernel
theorem dX2_fewestUnits_8 : decode cX2_fewestUnits 8 = .ok (.iconst 0, 1) := by decide +kernel
theorem dX2_fewestUnits_9 : decode cX2_fewestUnits 9 = .ok (.iload_n 2, 1) := by decide +kernel
theorem dX2_fewestUnits_10 : decode cX2_fewestUnits 10 = .ok (.iconst 0, 1) := by decide +kernel
theorem dX2_fewestUnits_11 : decode cX2_fewestUnits 11 = .ok (.invokestatic 31, 3) := by decide +kernel
theorem dX2_fewestUnits_14 : decode cX2_fewestUnits 14 = .ok (.aload_n 0, 1) := by decide +kernel
theorem dX2_fewestUnits_15 : decode cX2_fewestUnits 15 = .ok (.getfield 28, 3) := by decide +kernel
theorem dX2_fewestUnits_18 : decode cX2_fewestUnits 18 = .ok (.ireturn, 1) := by decide +kernel
theorem dX2_mostPlaces_0 : decode cX2_mostPlaces 0 = .ok (.iconst 0, 1) := by decide +kernel
theorem dX2_mostPlaces_1 : decode cX2_mostPlaces 1 = .ok (.istore_n 2, 1) := by decide +kernel
theorem dX2_mostPlaces_2 : decode cX2_mostPlaces 2 = .ok (.iconst 1, 1) := by decide +kernel
theorem dX2_mostPlaces_3 : decode cX2_mostPlaces 3 = .ok (.istore_n 3, 1) := by decide +kernel
theorem dX2_mostPlaces_4 : decode cX2_mostPlaces 4 = .ok (.iload_n 3, 1) := by decide +kernel
theorem dX2_mostPlaces_5 : decode cX2_mostPlaces 5 = .ok (.iconst 1, 1) := by decide +kernel
theorem dX2_mostPlaces_6 : decode cX2_mostPlaces 6 = .ok (.aload_n 0, 1) := by decide +kernel
theorem dX2_mostPlaces_7 : decode cX2_mostPlaces 7 = .ok (.getfield 24, 3) := by decide +kernel
theorem dX2_mostPlaces_10 : decode cX2_mostPlaces 10 = .ok (.ishl, 1) := by decide +kernel
theorem dX2_mostPlaces_11 : decode cX2_mostPlaces 11 = .ok (.if_icmp .ge 45, 3) := by decide +kernel
theorem dX2_mostPlaces_14 : decode cX2_mostPlaces 14 = .ok (.iload_n 3, 1) := by decide +kernel
theorem dX2_mostPlaces_15 : decode cX2_mostPlaces 15 = .ok (.invokestatic 35, 3) := by decide +kernel
theorem dX2_mostPlaces_18 : decode cX2_mostPlaces 18 = .ok (.iload_n 2, 1) := by decide +kernel
theorem dX2_mostPlaces_19 : decode cX2_mostPlaces 19 = .ok (.invokestatic 35, 3) := by decide +kernel
theorem dX2_mostPlaces_22 : decode cX2_mostPlaces 22 = .ok (.if_icmp .le 7, 3) := by decide +kernel
theorem dX2_mostPlaces_25 : decode cX2_mostPlaces 25 = .ok (.iconst 1, 1) := by decide +kernel
theorem dX2_mostPlaces_26 : decode cX2_mostPlaces 26 = .ok (.goto 4, 3) := by decide +kernel
theorem dX2_mostPlaces_29 : decode cX2_mostPlaces 29 = .ok (.iconst 0, 1) := by decide +kernel
theorem dX2_mostPlaces_30 : decode cX2_mostPlaces 30 = .ok (.istore 4, 2) := by decide +kernel
theorem dX2_mostPlaces_32 : decode cX2_mostPlaces 32 = .ok (.iload 4, 2) := by decide +kernel
theorem dX2_mostPlaces_34 : decode cX2_mostPlaces 34 = .ok (.ifCond .eq 16, 3) := by decide +kernel
theorem dX2_mostPlaces_37 : decode cX2_mostPlaces 37 = .ok (.aload_n 0, 1) := by decide +kernel
theorem dX2_mostPlaces_38 : decode cX2_mostPlaces 38 = .ok (.aload_n 1, 1) := by decide +kernel
theorem dX2_mostPlaces_39 : decode cX2_mostPlaces 39 = .ok (.iload_n 3, 1) := by decide +kernel
theorem dX2_mostPlaces_40 : decode cX2_mostPlaces 40 = .ok (.invokevirtual 41, 3) := by decide +kernel
theorem dX2_mostPlaces_43 : decode cX2_mostPlaces 43 = .ok (.bipush (-9), 2) := by decide +kernel
theorem dX2_mostPlaces_45 : decode cX2_mostPlaces 45 = .ok (.if_icmp .eq 5, 3) := by decide +kernel
theorem dX2_mostPlaces_48 : decode cX2_mostPlaces 48 = .ok (.iload_n 3, 1) := by decide +kernel
theorem dX2_mostPlaces_49 : decode cX2_mostPlaces 49 = .ok (.istore_n 2, 1) := by decide +kernel
theorem dX2_mostPlaces_50 : decode cX2_mostPlaces 50 = .ok (.iinc 3 1, 3) := by decide +kernel
theorem dX2_mostPlaces_53 : decode cX2_mostPlaces 53 = .ok (.goto (-49), 3) := by decide +kernel
theorem dX2_mostPlaces_56 : decode cX2_mostPlaces 56 = .ok (.iload_n 2, 1) := by decide +kernel
theorem dX2_mostPlaces_57 : decode cX2_mostPlaces 57 = .ok (.ireturn, 1) := by decide +kernel
theorem dX2_choose_0 : decode cX2_choose 0 = .ok (.iload_n 2, 1) := by decide +kernel
theorem dX2_choose_1 : decode cX2_choose 1 = .ok (.aload_n 0, 1) := by decide +kernel
theorem dX2_choose_2 : decode cX2_choose 2 = .ok (.getfield 24, 3) := by decide +kernel
theorem dX2_choose_5 : decode cX2_choose 5 = .ok (.if_icmp .ge 8, 3) := by decide +kernel
theorem dX2_choose_8 : decode cX2_choose 8 = .ok (.iload_n 2, 1) := by decide +kernel
theorem dX2_choose_9 : decode cX2_choose 9 = .ok (.iconst 3, 1) := by decide +kernel
theorem dX2_choose_10 : decode cX2_choose 10 = .ok (.if_icmp .lt 10, 3) := by decide +kernel
theorem dX2_choose_13 : decode cX2_choose 13 = .ok (.aload_n 0, 1) := by decide +kernel
theorem dX2_choose_14 : decode cX2_choose 14 = .ok (.iload 4, 2) := by decide +kernel
theorem dX2_choose_16 : decode cX2_choose 16 = .ok (.invokevirtual 45, 3) := by decide +kernel
theorem dX2_choose_19 : decode cX2_choose 19 = .ok (.return_, 1) := by decide +kernel
theorem dX2_choose_20 : decode cX2_choose 20 = .ok (.iload_n 3, 1) := by decide +kernel
theorem dX2_choose_21 : decode cX2_choose 21 = .ok (.iload_n 2, 1) := by decide +kernel
theorem dX2_choose_22 : decode cX2_choose 22 = .ok (.ishr, 1) := by decide +kernel
theorem dX2_choose_23 : decode cX2_choose 23 = .ok (.iconst 1, 1) := by decide +kernel
theorem dX2_choose_24 : decode cX2_choose 24 = .ok (.iand, 1) := by decide +kernel
theorem dX2_choose_25 : decode cX2_choose 25 = .ok (.ifCond .ne 15, 3) := by decide +kernel
theorem dX2_choose_28 : decode cX2_choose 28 = .ok (.aload_n 0, 1) := by decide +kernel
theorem dX2_choose_29 : decode cX2_choose 29 = .ok (.aload_n 1, 1) := by decide +kernel
theorem dX2_choose_30 : decode cX2_choose 30 = .ok (.iload_n 2, 1) := by decide +kernel
theorem dX2_choose_31 : decode cX2_choose 31 = .ok (.iconst 1, 1) := by decide +kernel
theorem dX2_choose_32 : decode cX2_choose 32 = .ok (.iadd, 1) := by decide +kernel
theorem dX2_choose_33 : decode cX2_choose 33 = .ok (.iload_n 3, 1) := by decide +kernel
theorem dX2_choose_34 : decode cX2_choose 34 = .ok (.iload 4, 2) := by decide +kernel
theorem dX2_choose_36 : decode cX2_choose 36 = .ok (.invokestatic 31, 3) := by decide +kernel
theorem dX2_choose_39 : decode cX2_choose 39 = .ok (.return_, 1) := by decide +kernel
theorem dX2_choose_40 : decode cX2_choose 40 = .ok (.iconst 0, 1) := by decide +kernel
theorem dX2_choose_41 : decode cX2_choose 41 = .ok (.istore 5, 2) := by decide +kernel
theorem dX2_choose_43 : decode cX2_choose 43 = .ok (.iload 5, 2) := by decide +kernel
theorem dX2_choose_45 : decode cX2_choose 45 = .ok (.aload_n 1, 1) := by decide +kernel
theorem dX2_choose_46 : decode cX2_choose 46 = .ok (.getfield 49, 3) := by decide +kernel
theorem dX2_choose_49 : decode cX2_choose 49 = .ok (.if_icmp .ge 88, 3) := by decide +kernel
theorem dX2_choose_52 : decode cX2_choose 52 = .ok (.aload_n 1, 1) := by decide +kernel
theorem dX2_choose_53 : decode cX2_choose 53 = .ok (.getfield 54, 3) := by decide +kernel
theorem dX2_choose_56 : decode cX2_choose 56 = .ok (.iload 5, 2) := by decide +kernel
theorem dX2_choose_58 : decode cX2_choose 58 = .ok (.iaload, 1) := by decide +kernel
theorem dX2_choose_59 : decode cX2_choose 59 = .ok (.aload_n 0, 1) := by decide +kernel
theorem dX2_choose_60 : decode cX2_choose 60 = .ok (.getfield 9, 3) := by decide +kernel
theorem dX2_choose_63 : decode cX2_choose 63 = .ok (.iload_n 2, 1) := by decide +kernel
theorem dX2_choose_64 : decode cX2_choose 64 = .ok (.iaload, 1) := by decide +kernel
theorem dX2_choose_65 : decode cX2_choose 65 = .ok (.if_icmp .ne 66, 3) := by decide +kernel
theorem dX2_choose_68 : decode cX2_choose 68 = .ok (.aload_n 1, 1) := by decide +kernel
theorem dX2_choose_69 : decode cX2_choose 69 = .ok (.iload 5, 2) := by decide +kernel
theorem dX2_choose_71 : decode cX2_choose 71 = .ok (.aload_n 0, 1) := by decide +kernel
theorem dX2_choose_72 : decode cX2_choose 72 = .ok (.getfield 21, 3) := by decide +kernel
theorem dX2_choose_75 : decode cX2_choose 75 = .ok (.invokevirtual 57, 3) := by decide +kernel
theorem dX2_choose_78 : decode cX2_choose 78 = .ok (.ifCond .ne 6, 3) := by decide +kernel
theorem dX2_choose_81 : decode cX2_choose 81 = .ok (.goto 50, 3) := by decide +kernel
theorem dX2_choose_84 : decode cX2_choose 84 = .ok (.aload_n 0, 1) := by decide +kernel
theorem dX2_choose_85 : decode cX2_choose 85 = .ok (.getfield 15, 3) := by decide +kernel
theorem dX2_choose_88 : decode cX2_choose 88 = .ok (.iload_n 2, 1) := by decide +kernel
theorem dX2_choose_89 : decode cX2_choose 89 = .ok (.iload 5, 2) := by decide +kernel
theorem dX2_choose_91 : decode cX2_choose 91 = .ok (.iastore, 1) := by decide +kernel
theorem dX2_choose_92 : decode cX2_choose 92 = .ok (.aload_n 1, 1) := by decide +kernel
theorem dX2_choose_93 : decode cX2_choose 93 = .ok (.iload 5, 2) := by decide +kernel
theorem dX2_choose_95 : decode cX2_choose 95 = .ok (.aload_n 0, 1) := by decide +kernel
theorem dX2_choose_96 : decode cX2_choose 96 = .ok (.getfield 21, 3) := by decide +kernel
theorem dX2_choose_99 : decode cX2_choose 99 = .ok (.invokevirtual 61, 3) := by decide +kernel
theorem dX2_choose_102 : decode cX2_choose 102 = .ok (.aload_n 0, 1) := by decide +kernel
theorem dX2_choose_103 : decode cX2_choose 103 = .ok (.aload_n 1, 1) := by decide +kernel
theorem dX2_choose_104 : decode cX2_choose 104 = .ok (.iload_n 2, 1) := by decide +kernel
theorem dX2_choose_105 : decode cX2_choose 105 = .ok (.iconst 1, 1) := by decide +kernel
theorem dX2_choose_106 : decode cX2_choose 106 = .ok (.iadd, 1) := by decide +kernel
theorem dX2_choose_107 : decode cX2_choose 107 = .ok (.iload_n 3, 1) := by decide +kernel
theorem dX2_choose_108 : decode cX2_choose 108 = .ok (.iload 4, 2) := by decide +kernel
theorem dX2_choose_110 : decode cX2_choose 110 = .ok (.aload_n 1, 1) := by decide +kernel
theorem dX2_choose_111 : decode cX2_choose 111 = .ok (.getfield 65, 3) := by decide +kernel
theorem dX2_choose_114 : decode cX2_choose 114 = .ok (.iload 5, 2) := by decide +kernel
theorem dX2_choose_116 : decode cX2_choose 116 = .ok (.iaload, 1) := by decide +kernel
theorem dX2_choose_117 : decode cX2_choose 117 = .ok (.iadd, 1) := by decide +kernel
theorem dX2_choose_118 : decode cX2_choose 118 = .ok (.invokestatic 31, 3) := by decide +kernel
theorem dX2_choose_121 : decode cX2_choose 121 = .ok (.aload_n 1, 1) := by decide +kernel
theorem dX2_choose_122 : decode cX2_choose 122 = .ok (.iload 5, 2) := by decide +kernel
theorem dX2_choose_124 : decode cX2_choose 124 = .ok (.aload_n 0, 1) := by decide +kernel
theorem dX2_choose_125 : decode cX2_choose 125 = .ok (.getfield 21, 3) := by decide +kernel
theorem dX2_choose_128 : decode cX2_choose 128 = .ok (.invokevirtual 68, 3) := by decide +kernel
theorem dX2_choose_131 : decode cX2_choose 131 = .ok (.iinc 5 1, 3) := by decide +kernel
theorem dX2_choose_134 : decode cX2_choose 134 = .ok (.goto (-91), 3) := by decide +kernel
theorem dX2_choose_137 : decode cX2_choose 137 = .ok (.return_, 1) := by decide +kernel
theorem dX2_compare_0 : decode cX2_compare 0 = .ok (.aload_n 0, 1) := by decide +kernel
theorem dX2_compare_1 : decode cX2_compare 1 = .ok (.getfield 28, 3) := by decide +kernel
theorem dX2_compare_4 : decode cX2_compare 4 = .ok (.bipush (-9), 2) := by decide +kernel
theorem dX2_compare_6 : decode cX2_compare 6 = .ok (.if_icmp .eq 12, 3) := by decide +kernel
theorem dX2_compare_9 : decode cX2_compare 9 = .ok (.iload_n 1, 1) := by decide +kernel
theorem dX2_compare_10 : decode cX2_compare 10 = .ok (.aload_n 0, 1) := by decide +kernel
theorem dX2_compare_11 : decode cX2_compare 11 = .ok (.getfield 28, 3) := by decide +kernel
theorem dX2_compare_14 : decode cX2_compare 14 = .ok (.if_icmp .lt 4, 3) := by decide +kernel
theorem dX2_compare_17 : decode cX2_compare 17 = .ok (.return_, 1) := by decide +kernel
theorem dX2_compare_18 : decode cX2_compare 18 = .ok (.aload_n 0, 1) := by decide +kernel
theorem dX2_compare_19 : decode cX2_compare 19 = .ok (.iload_n 1, 1) := by decide +kernel
theorem dX2_compare_20 : decode cX2_compare 20 = .ok (.putfield 28, 3) := by decide +kernel
theorem dX2_compare_23 : decode cX2_compare 23 = .ok (.iconst 0, 1) := by decide +kernel
theorem dX2_compare_24 : decode cX2_compare 24 = .ok (.istore_n 2, 1) := by decide +kernel
theorem dX2_compare_25 : decode cX2_compare 25 = .ok (.iload_n 2, 1) := by decide +kernel
theorem dX2_compare_26 : decode cX2_compare 26 = .ok (.iconst 3, 1) := by decide +kernel
theorem dX2_compare_27 : decode cX2_compare 27 = .ok (.if_icmp .ge 21, 3) := by decide +kernel
theorem dX2_compare_30 : decode cX2_compare 30 = .ok (.aload_n 0, 1) := by decide +kernel
theorem dX2_compare_31 : decode cX2_compare 31 = .ok (.getfield 18, 3) := by decide +kernel
theorem dX2_compare_34 : decode cX2_compare 34 = .ok (.iload_n 2, 1) := by decide +kernel
theorem dX2_compare_35 : decode cX2_compare 35 = .ok (.aload_n 0, 1) := by decide +kernel
theorem dX2_compare_36 : decode cX2_compare 36 = .ok (.getfield 15, 3) := by decide +kernel
theorem dX2_compare_39 : decode cX2_compare 39 = .ok (.iload_n 2, 1) := by decide +kernel
theorem dX2_compare_40 : decode cX2_compare 40 = .ok (.iaload, 1) := by decide +kernel
theorem dX2_compare_41 : decode cX2_compare 41 = .ok (.iastore, 1) := by decide +kernel
theorem dX2_compare_42 : decode cX2_compare 42 = .ok (.iinc 2 1, 3) := by decide +kernel
theorem dX2_compare_45 : decode cX2_compare 45 = .ok (.goto (-20), 3) := by decide +kernel
theorem dX2_compare_48 : decode cX2_compare 48 = .ok (.return_, 1) := by decide +kernel
theorem dX3_init_0 : decode cX3_init 0 = .ok (.aload_n 0, 1) := by decide +kernel
theorem dX3_init_1 : decode cX3_init 1 = .ok (.invokespecial 3, 3) := by decide +kernel
theorem dX3_init_4 : decode cX3_init 4 = .ok (.aload_n 0, 1) := by decide +kernel
theorem dX3_init_5 : decode cX3_init 5 = .ok (.bipush 30, 2) := by decide +kernel
theorem dX3_init_7 : decode cX3_init 7 = .ok (.newarray .int, 2) := by decide +kernel
theorem dX3_init_9 : decode cX3_init 9 = .ok (.putfield 9, 3) := by decide +kernel
theorem dX3_init_12 : decode cX3_init 12 = .ok (.aload_n 0, 1) := by decide +kernel
theorem dX3_init_13 : decode cX3_init 13 = .ok (.bipush 20, 2) := by decide +kernel
theorem dX3_init_15 : decode cX3_init 15 = .ok (.newarray .int, 2) := by decide +kernel
theorem dX3_init_17 : decode cX3_init 17 = .ok (.putfield 15, 3) := by decide +kernel
theorem dX3_init_20 : decode cX3_init 20 = .ok (.aload_n 0, 1) := by decide +kernel
theorem dX3_init_21 : decode cX3_init 21 = .ok (.bipush 20, 2) := by decide +kernel
theorem dX3_init_23 : decode cX3_init 23 = .ok (.newarray .int, 2) := by decide +kernel
theorem dX3_init_25 : decode cX3_init 25 = .ok (.putfield 18, 3) := by decide +kernel
theorem dX3_init_28 : decode cX3_init 28 = .ok (.aload_n 0, 1) := by decide +kernel
theorem dX3_init_29 : decode cX3_init 29 = .ok (.iconst 0, 1) := by decide +kernel
theorem dX3_init_30 : decode cX3_init 30 = .ok (.putfield 21, 3) := by decide +kernel
theorem dX3_init_33 : decode cX3_init 33 = .ok (.aload_n 0, 1) := by decide +kernel
theorem dX3_init_34 : decode cX3_init 34 = .ok (.iconst 0, 1) := by decide +kernel
theorem dX3_init_35 : decode cX3_init 35 = .ok (.putfield 25, 3) := by decide +kernel
theorem dX3_init_38 : decode cX3_init 38 = .ok (.aload_n 0, 1) := by decide +kernel
theorem dX3_init_39 : decode cX3_init 39 = .ok (.iconst 0, 1) := by decide +kernel
theorem dX3_init_40 : decode cX3_init 40 = .ok (.putfield 28, 3) := by decide +kernel
theorem dX3_init_43 : decode cX3_init 43 = .ok (.aload_n 0, 1) := by decide +kernel
theorem dX3_init_44 : decode cX3_init 44 = .ok (.iconst 1, 1) := by decide +kernel
theorem dX3_init_45 : decode cX3_init 45 = .ok (.putfield 31, 3) := by decide +kernel
theorem dX3_init_48 : decode cX3_init 48 = .ok (.aload_n 0, 1) := by decide +kernel
theorem dX3_init_49 : decode cX3_init 49 = .ok (.iconst 0, 1) := by decide +kernel
theorem dX3_init_50 : decode cX3_init 50 = .ok (.putfield 34, 3) := by decide +kernel
theorem dX3_init_53 : decode cX3_init 53 = .ok (.return_, 1) := by decide +kernel
theorem dX3_become_0 : decode cX3_become 0 = .ok (.aload_n 0, 1) := by decide +kernel
theorem dX3_become_1 : decode cX3_become 1 = .ok (.aload_n 1, 1) := by decide +kernel
theorem dX3_become_2 : decode cX3_become 2 = .ok (.getfield 21, 3) := by decide +kernel
theorem dX3_become_5 : decode cX3_become 5 = .ok (.putfield 21, 3) := by decide +kernel
theorem dX3_become_8 : decode cX3_become 8 = .ok (.aload_n 0, 1) := by decide +kernel
theorem dX3_become_9 : decode cX3_become 9 = .ok (.aload_n 1, 1) := by decide +kernel
theorem dX3_become_10 : decode cX3_become 10 = .ok (.getfield 25, 3) := by decide +kernel
theorem dX3_become_13 : decode cX3_become 13 = .ok (.putfield 25, 3) := by decide +kernel
theorem dX3_become_16 : decode cX3_become 16 = .ok (.aload_n 0, 1) := by decide +kernel
theorem dX3_become_17 : decode cX3_become 17 = .ok (.aload_n 1, 1) := by decide +kernel
theorem dX3_become_18 : decode cX3_become 18 = .ok (.getfield 28, 3) := by decide +kernel
theorem dX3_become_21 : decode cX3_become 21 = .ok (.putfield 28, 3) := by decide +kernel
theorem dX3_become_24 : decode cX3_become 24 = .ok (.aload_n 0, 1) := by decide +kernel
theorem dX3_become_25 : decode cX3_become 25 = .ok (.aload_n 1, 1) := by decide +kernel
theorem dX3_become_26 : decode cX3_become 26 = .ok (.getfield 31, 3) := by decide +kernel
theorem dX3_become_29 : decode cX3_become 29 = .ok (.putfield 31, 3) := by decide +kernel
theorem dX3_become_32 : decode cX3_become 32 = .ok (.iconst 0, 1) := by decide +kernel
theorem dX3_become_33 : decode cX3_become 33 = .ok (.istore_n 2, 1) := by decide +kernel
theorem dX3_become_34 : decode cX3_become 34 = .ok (.iload_n 2, 1) := by decide +kernel
theorem dX3_become_35 : decode cX3_become 35 = .ok (.bipush 30, 2) := by decide +kernel
theorem dX3_become_37 : decode cX3_become 37 = .ok (.if_icmp .ge 21, 3) := by decide +kernel
theorem dX3_become_40 : decode cX3_become 40 = .ok (.aload_n 0, 1) := by decide +kernel
theorem dX3_become_41 : decode cX3_become 41 = .ok (.getfield 9, 3) := by decide +kernel
theorem dX3_become_44 : decode cX3_become 44 = .ok (.iload_n 2, 1) := by decide +kernel
theorem dX3_become_45 : decode cX3_become 45 = .ok (.aload_n 1, 1) := by decide +kernel
theorem dX3_become_46 : decode cX3_become 46 = .ok (.getfield 9, 3) := by decide +kernel
theorem dX3_become_49 : decode cX3_become 49 = .ok (.iload_n 2, 1) := by decide +kernel
theorem dX3_become_50 : decode cX3_become 50 = .ok (.iaload, 1) := by decide +kernel
theorem dX3_become_51 : decode cX3_become 51 = .ok (.iastore, 1) := by decide +kernel
theorem dX3_become_52 : decode cX3_become 52 = .ok (.iinc 2 1, 3) := by decide +kernel
theorem dX3_become_55 : decode cX3_become 55 = .ok (.goto (-21), 3) := by decide +kernel
theorem dX3_become_58 : decode cX3_become 58 = .ok (.iconst 0, 1) := by decide +kernel
theorem dX3_become_59 : decode cX3_become 59 = .ok (.istore_n 2, 1) := by decide +kernel
theorem dX3_become_60 : decode cX3_become 60 = .ok (.iload_n 2, 1) := by decide +kernel
theorem dX3_become_61 : decode cX3_become 61 = .ok (.bipush 20, 2) := by decide +kernel
theorem dX3_become_63 : decode cX3_become 63 = .ok (.if_icmp .ge 33, 3) := by decide +kernel
theorem dX3_become_66 : decode cX3_become 66 = .ok (.aload_n 0, 1) := by decide +kernel
theorem dX3_become_67 : decode cX3_become 67 = .ok (.getfield 15, 3) := by decide +kernel
theorem dX3_become_70 : decode cX3_become 70 = .ok (.iload_n 2, 1) := by decide +kernel
theorem dX3_become_71 : decode cX3_become 71 = .ok (.aload_n 1, 1) := by decide +kernel
theorem dX3_become_72 : decode cX3_become 72 = .ok (.getfield 15, 3) := by decide +kernel
theorem dX3_become_75 : decode cX3_become 75 = .ok (.iload_n 2, 1) := by decide +kernel
theorem dX3_become_76 : decode cX3_become 76 = .ok (.iaload, 1) := by decide +kernel
theorem dX3_become_77 : decode cX3_become 77 = .ok (.iastore, 1) := by decide +kernel
theorem dX3_become_78 : decode cX3_become 78 = .ok (.aload_n 0, 1) := by decide +kernel
theorem dX3_become_79 : decode cX3_become 79 = .ok (.getfield 18, 3) := by decide +kernel
theorem dX3_become_82 : decode cX3_become 82 = .ok (.iload_n 2, 1) := by decide +kernel
theorem dX3_become_83 : decode cX3_become 83 = .ok (.aload_n 1, 1) := by decide +kernel
theorem dX3_become_84 : decode cX3_become 84 = .ok (.getfield 18, 3) := by decide +kernel
theorem dX3_become_87 : decode cX3_become 87 = .ok (.iload_n 2, 1) := by decide +kernel
theorem dX3_become_88 : decode cX3_become 88 = .ok (.iaload, 1) := by decide +kernel
theorem dX3_become_89 : decode cX3_become 89 = .ok (.iastore, 1) := by decide +kernel
theorem dX3_become_90 : decode cX3_become 90 = .ok (.iinc 2 1, 3) := by decide +kernel
theorem dX3_become_93 : decode cX3_become 93 = .ok (.goto (-33), 3) := by decide +kernel
theorem dX3_become_96 : decode cX3_become 96 = .ok (.return_, 1) := by decide +kernel
theorem dX3_settle_0 : decode cX3_settle 0 = .ok (.aload_n 0, 1) := by decide +kernel
theorem dX3_settle_1 : decode cX3_settle 1 = .ok (.getfield 21, 3) := by decide +kernel
theorem dX3_settle_4 : decode cX3_settle 4 = .ok (.bipush 6, 2) := by decide +kernel
theorem dX3_settle_6 : decode cX3_settle 6 = .ok (.if_icmp .ge 9, 3) := by decide +kernel
theorem dX3_settle_9 : decode cX3_settle 9 = .ok (.aload_n 1, 1) := by decide +kernel
theorem dX3_settle_10 : decode cX3_settle 10 = .ok (.arraylength, 1) := by decide +kernel
theorem dX3_settle_11 : decode cX3_settle 11 = .ok (.iconst 5, 1) := by decide +kernel
theorem dX3_settle_12 : decode cX3_settle 12 = .ok (.if_icmp .ge 4, 3) := by decide +kernel
theorem dX3_settle_15 : decode cX3_settle 15 = .ok (.return_, 1) := by decide +kernel
theorem dX3_settle_16 : decode cX3_settle 16 = .ok (.iconst 0, 1) := by decide +kernel
theorem dX3_settle_17 : decode cX3_settle 17 = .ok (.istore_n 2, 1) := by decide +kernel
theorem dX3_settle_18 : decode cX3_settle 18 = .ok (.iload_n 2, 1) := by decide +kernel
theorem dX3_settle_19 : decode cX3_settle 19 = .ok (.iconst 5, 1) := by decide +kernel
theorem dX3_settle_20 : decode cX3_settle 20 = .ok (.if_icmp .ge 25, 3) := by decide +kernel
theorem dX3_settle_23 : decode cX3_settle 23 = .ok (.aload_n 0, 1) := by decide +kernel
theorem dX3_settle_24 : decode cX3_settle 24 = .ok (.getfield 9, 3) := by decide +kernel
theorem dX3_settle_27 : decode cX3_settle 27 = .ok (.aload_n 0, 1) := by decide +kernel
theorem dX3_settle_28 : decode cX3_settle 28 = .ok (.getfield 21, 3) := by decide +kernel
theorem dX3_settle_31 : decode cX3_settle 31 = .ok (.iconst 5, 1) := by decide +kernel
theorem dX3_settle_32 : decode cX3_settle 32 = .ok (.imul, 1) := by decide +kernel
theorem dX3_settle_33 : decode cX3_settle 33 = .ok (.iload_n 2, 1) := by decide +kernel
theorem dX3_settle_34 : decode cX3_settle 34 = .ok (.iadd, 1) := by decide +kernel
theorem dX3_settle_35 : decode cX3_settle 35 = .ok (.aload_n 1, 1) := by decide +kernel
theorem dX3_settle_36 : decode cX3_settle 36 = .ok (.iload_n 2, 1) := by decide +kernel
theorem dX3_settle_37 : decode cX3_settle 37 = .ok (.iaload, 1) := by decide +kernel
theorem dX3_settle_38 : decode cX3_settle 38 = .ok (.iastore, 1) := by decide +kernel
theorem dX3_settle_39 : decode cX3_settle 39 = .ok (.iinc 2 1, 3) := by decide +kernel
theorem dX3_settle_42 : decode cX3_settle 42 = .ok (.goto (-24), 3) := by decide +kernel
theorem dX3_settle_45 : decode cX3_settle 45 = .ok (.aload_n 0, 1) := by decide +kernel
theorem dX3_settle_46 : decode cX3_settle 46 = .ok (.dup, 1) := by decide +kernel
theorem dX3_settle_47 : decode cX3_settle 47 = .ok (.getfield 21, 3) := by decide +kernel
theorem dX3_settle_50 : decode cX3_settle 50 = .ok (.iconst 1, 1) := by decide +kernel
theorem dX3_settle_51 : decode cX3_settle 51 = .ok (.iadd, 1) := by decide +kernel
theorem dX3_settle_52 : decode cX3_settle 52 = .ok (.putfield 21, 3) := by decide +kernel
theorem dX3_settle_55 : decode cX3_settle 55 = .ok (.return_, 1) := by decide +kernel
theorem dX3_hasHouse_0 : decode cX3_hasHouse 0 = .ok (.iload_n 1, 1) := by decide +kernel
theorem dX3_hasHouse_1 : decode cX3_hasHouse 1 = .ok (.ifCond .lt 15, 3) := by decide +kernel
theorem dX3_hasHouse_4 : decode cX3_hasHouse 4 = .ok (.iload_n 1, 1) := by decide +kernel
theorem dX3_hasHouse_5 : decode cX3_hasHouse 5 = .ok (.aload_n 0, 1) := by decide +kernel
theorem dX3_hasHouse_6 : decode cX3_hasHouse 6 = .ok (.getfield 21, 3) := by decide +kernel
theorem dX3_hasHouse_9 : decode cX3_hasHouse 9 = .ok (.if_icmp .ge 7, 3) := by decide +kernel
theorem dX3_hasHouse_12 : decode cX3_hasHouse 12 = .ok (.iconst 1, 1) := by decide +kernel
theorem dX3_hasHouse_13 : decode cX3_hasHouse 13 = .ok (.goto 4, 3) := by decide +kernel
theorem dX3_hasHouse_16 : decode cX3_hasHouse 16 = .ok (.iconst 0, 1) := by decide +kernel
theorem dX3_hasHouse_17 : decode cX3_hasHouse 17 = .ok (.ireturn, 1) := by decide +kernel
theorem dX3_stock_0 : decode cX3_stock 0 = .ok (.aload_n 0, 1) := by decide +kernel
theorem dX3_stock_1 : decode cX3_stock 1 = .ok (.getfield 9, 3) := by decide +kernel
theorem dX3_stock_4 : decode cX3_stock 4 = .ok (.iload_n 1, 1) := by decide +kernel
theorem dX3_stock_5 : decode cX3_stock 5 = .ok (.iconst 5, 1) := by decide +kernel
theorem dX3_stock_6 : decode cX3_stock 6 = .ok (.imul, 1) := by decide +kernel
theorem dX3_stock_7 : decode cX3_stock 7 = .ok (.iload_n 2, 1) := by decide +kernel
theorem dX3_stock_8 : decode cX3_stock 8 = .ok (.iadd, 1) := by decide +kernel
theorem dX3_stock_9 : decode cX3_stock 9 = .ok (.iaload, 1) := by decide +kernel
theorem dX3_stock_10 : decode cX3_stock 10 = .ok (.ireturn, 1) := by decide +kernel
theorem dX3_allStock_0 : decode cX3_allStock 0 = .ok (.iconst 0, 1) := by decide +kernel
theorem dX3_allStock_1 : decode cX3_allStock 1 = .ok (.istore_n 2, 1) := by decide +kernel
theorem dX3_allStock_2 : decode cX3_allStock 2 = .ok (.iconst 0, 1) := by decide +kernel
theorem dX3_allStock_3 : decode cX3_allStock 3 = .ok (.istore_n 3, 1) := by decide +kernel
theorem dX3_allStock_4 : decode cX3_allStock 4 = .ok (.iload_n 3, 1) := by decide +kernel
theorem dX3_allStock_5 : decode cX3_allStock 5 = .ok (.iconst 5, 1) := by decide +kernel
theorem dX3_allStock_6 : decode cX3_allStock 6 = .ok (.if_icmp .ge 18, 3) := by decide +kernel
theorem dX3_allStock_9 : decode cX3_allStock 9 = .ok (.iload_n 2, 1) := by decide +kernel
theorem dX3_allStock_10 : decode cX3_allStock 10 = .ok (.aload_n 0, 1) := by decide +kernel
theorem dX3_allStock_11 : decode cX3_allStock 11 = .ok (.iload_n 1, 1) := by decide +kernel
theorem dX3_allStock_12 : decode cX3_allStock 12 = .ok (.iload_n 3, 1) := by decide +kernel
theorem dX3_allStock_13 : decode cX3_allStock 13 = .ok (.invokevirtual 38, 3) := by decide +kernel
theorem dX3_allStock_16 : decode cX3_allStock 16 = .ok (.iadd, 1) := by decide +kernel
theorem dX3_allStock_17 : decode cX3_allStock 17 = .ok (.istore_n 2, 1) := by decide +kernel
theorem dX3_allStock_18 : decode cX3_allStock 18 = .ok (.iinc 3 1, 3) := by decide +kernel
theorem dX3_allStock_21 : decode cX3_allStock 21 = .ok (.goto (-17), 3) := by decide +kernel
theorem dX3_allStock_24 : decode cX3_allStock 24 = .ok (.iload_n 2, 1) := by decide +kernel
theorem dX3_allStock_25 : decode cX3_allStock 25 = .ok (.ireturn, 1) := by decide +kernel
theorem dX3_change_0 : decode cX3_change 0 = .ok (.aload_n 0, 1) := by decide +kernel
theorem dX3_change_1 : decode cX3_change 1 = .ok (.getfield 9, 3) := by decide +kernel
theorem dX3_change_4 : decode cX3_change 4 = .ok (.iload_n 1, 1) := by decide +kernel
theorem dX3_change_5 : decode cX3_change 5 = .ok (.iconst 5, 1) := by decide +kernel
theorem dX3_change_6 : decode cX3_change 6 = .ok (.imul, 1) := by decide +kernel
theorem dX3_change_7 : decode cX3_change 7 = .ok (.iload_n 2, 1) := by decide +kernel
theorem dX3_change_8 : decode cX3_change 8 = .ok (.iadd, 1) := by decide +kernel
theorem dX3_change_9 : decode cX3_change 9 = .ok (.dup2, 1) := by decide +kernel
theorem dX3_change_10 : decode cX3_change 10 = .ok (.iaload, 1) := by decide +kernel
theorem dX3_change_11 : decode cX3_change 11 = .ok (.iload_n 3, 1) := by decide +kernel
theorem dX3_change_12 : decode cX3_change 12 = .ok (.iadd, 1) := by decide +kernel
theorem dX3_change_13 : decode cX3_change 13 = .ok (.iastore, 1) := by decide +kernel
theorem dX3_change_14 : decode cX3_change 14 = .ok (.return_, 1) := by decide +kernel
theorem dX3_fill_0 : decode cX3_fill 0 = .ok (.iconst 0, 1) := by decide +kernel
theorem dX3_fill_1 : decode cX3_fill 1 = .ok (.istore_n 3, 1) := by decide +kernel
theorem dX3_fill_2 : decode cX3_fill 2 = .ok (.iload_n 3, 1) := by decide +kernel
theorem dX3_fill_3 : decode cX3_fill 3 = .ok (.iconst 5, 1) := by decide +kernel
theorem dX3_fill_4 : decode cX3_fill 4 = .ok (.if_icmp .ge 18, 3) := by decide +kernel
theorem dX3_fill_7 : decode cX3_fill 7 = .ok (.aload_n 2, 1) := by decide +kernel
theorem dX3_fill_8 : decode cX3_fill 8 = .ok (.iload_n 3, 1) := by decide +kernel
theorem dX3_fill_9 : decode cX3_fill 9 = .ok (.aload_n 0, 1) := by decide +kernel
theorem dX3_fill_10 : decode cX3_fill 10 = .ok (.iload_n 1, 1) := by decide +kernel
theorem dX3_fill_11 : decode cX3_fill 11 = .ok (.iload_n 3, 1) := by decide +kernel
theorem dX3_fill_12 : decode cX3_fill 12 = .ok (.invokevirtual 38, 3) := by decide +kernel
theorem dX3_fill_15 : decode cX3_fill 15 = .ok (.iastore, 1) := by decide +kernel
theorem dX3_fill_16 : decode cX3_fill 16 = .ok (.iinc 3 1, 3) := by decide +kernel
theorem dX3_fill_19 : decode cX3_fill 19 = .ok (.goto (-17), 3) := by decide +kernel
theorem dX3_fill_22 : decode cX3_fill 22 = .ok (.return_, 1) := by decide +kernel
theorem dX3_rise_0 : decode cX3_rise 0 = .ok (.aload_n 0, 1) := by decide +kernel
theorem dX3_rise_1 : decode cX3_rise 1 = .ok (.getfield 25, 3) := by decide +kernel
