theorem dX6_init_0 : decode cX6_init 0 = .ok (.aload_n 0, 1) := by decide +kernel
theorem dX6_init_1 : decode cX6_init 1 = .ok (.invokespecial 1, 3) := by decide +kernel
theorem dX6_init_4 : decode cX6_init 4 = .ok (.aload_n 0, 1) := by decide +kernel
theorem dX6_init_5 : decode cX6_init 5 = .ok (.new 7, 3) := by decide +kernel
theorem dX6_init_8 : decode cX6_init 8 = .ok (.dup, 1) := by decide +kernel
theorem dX6_init_9 : decode cX6_init 9 = .ok (.invokespecial 9, 3) := by decide +kernel
theorem dX6_init_12 : decode cX6_init 12 = .ok (.putfield 10, 3) := by decide +kernel
theorem dX6_init_15 : decode cX6_init 15 = .ok (.aload_n 0, 1) := by decide +kernel
theorem dX6_init_16 : decode cX6_init 16 = .ok (.new 16, 3) := by decide +kernel
theorem dX6_init_19 : decode cX6_init 19 = .ok (.dup, 1) := by decide +kernel
theorem dX6_init_20 : decode cX6_init 20 = .ok (.invokespecial 18, 3) := by decide +kernel
theorem dX6_init_23 : decode cX6_init 23 = .ok (.putfield 19, 3) := by decide +kernel
theorem dX6_init_26 : decode cX6_init 26 = .ok (.aload_n 0, 1) := by decide +kernel
theorem dX6_init_27 : decode cX6_init 27 = .ok (.new 23, 3) := by decide +kernel
theorem dX6_init_30 : decode cX6_init 30 = .ok (.dup, 1) := by decide +kernel
theorem dX6_init_31 : decode cX6_init 31 = .ok (.invokespecial 25, 3) := by decide +kernel
theorem dX6_init_34 : decode cX6_init 34 = .ok (.putfield 26, 3) := by decide +kernel
theorem dX6_init_37 : decode cX6_init 37 = .ok (.aload_n 0, 1) := by decide +kernel
theorem dX6_init_38 : decode cX6_init 38 = .ok (.new 30, 3) := by decide +kernel
theorem dX6_init_41 : decode cX6_init 41 = .ok (.dup, 1) := by decide +kernel
theorem dX6_init_42 : decode cX6_init 42 = .ok (.invokespecial 32, 3) := by decide +kernel
theorem dX6_init_45 : decode cX6_init 45 = .ok (.putfield 33, 3) := by decide +kernel
theorem dX6_init_48 : decode cX6_init 48 = .ok (.aload_n 0, 1) := by decide +kernel
theorem dX6_init_49 : decode cX6_init 49 = .ok (.new 30, 3) := by decide +kernel
theorem dX6_init_52 : decode cX6_init 52 = .ok (.dup, 1) := by decide +kernel
theorem dX6_init_53 : decode cX6_init 53 = .ok (.invokespecial 32, 3) := by decide +kernel
theorem dX6_init_56 : decode cX6_init 56 = .ok (.putfield 37, 3) := by decide +kernel
theorem dX6_init_59 : decode cX6_init 59 = .ok (.aload_n 0, 1) := by decide +kernel
theorem dX6_init_60 : decode cX6_init 60 = .ok (.new 30, 3) := by decide +kernel
theorem dX6_init_63 : decode cX6_init 63 = .ok (.dup, 1) := by decide +kernel
theorem dX6_init_64 : decode cX6_init 64 = .ok (.invokespecial 32, 3) := by decide +kernel
theorem dX6_init_67 : decode cX6_init 67 = .ok (.putfield 40, 3) := by decide +kernel
theorem dX6_init_70 : decode cX6_init 70 = .ok (.aload_n 0, 1) := by decide +kernel
theorem dX6_init_71 : decode cX6_init 71 = .ok (.new 43, 3) := by decide +kernel
theorem dX6_init_74 : decode cX6_init 74 = .ok (.dup, 1) := by decide +kernel
theorem dX6_init_75 : decode cX6_init 75 = .ok (.invokespecial 45, 3) := by decide +kernel
theorem dX6_init_78 : decode cX6_init 78 = .ok (.putfield 46, 3) := by decide +kernel
theorem dX6_init_81 : decode cX6_init 81 = .ok (.aload_n 0, 1) := by decide +kernel
theorem dX6_init_82 : decode cX6_init 82 = .ok (.new 50, 3) := by decide +kernel
theorem dX6_init_85 : decode cX6_init 85 = .ok (.dup, 1) := by decide +kernel
theorem dX6_init_86 : decode cX6_init 86 = .ok (.invokespecial 52, 3) := by decide +kernel
theorem dX6_init_89 : decode cX6_init 89 = .ok (.putfield 53, 3) := by decide +kernel
theorem dX6_init_92 : decode cX6_init 92 = .ok (.aload_n 0, 1) := by decide +kernel
theorem dX6_init_93 : decode cX6_init 93 = .ok (.iconst 5, 1) := by decide +kernel
theorem dX6_init_94 : decode cX6_init 94 = .ok (.newarray .int, 2) := by decide +kernel
theorem dX6_init_96 : decode cX6_init 96 = .ok (.putfield 57, 3) := by decide +kernel
theorem dX6_init_99 : decode cX6_init 99 = .ok (.aload_n 0, 1) := by decide +kernel
theorem dX6_init_100 : decode cX6_init 100 = .ok (.lconst 0, 1) := by decide +kernel
theorem dX6_init_101 : decode cX6_init 101 = .ok (.putfield 61, 3) := by decide +kernel
theorem dX6_init_104 : decode cX6_init 104 = .ok (.return_, 1) := by decide +kernel
theorem dX6_type_0 : decode cX6_type 0 = .ok (.iload_n 3, 1) := by decide +kernel
theorem dX6_type_1 : decode cX6_type 1 = .ok (.iconst 1, 1) := by decide +kernel
theorem dX6_type_2 : decode cX6_type 2 = .ok (.if_icmp .lt 9, 3) := by decide +kernel
theorem dX6_type_5 : decode cX6_type 5 = .ok (.iload_n 3, 1) := by decide +kernel
theorem dX6_type_6 : decode cX6_type 6 = .ok (.bipush 8, 2) := by decide +kernel
theorem dX6_type_8 : decode cX6_type 8 = .ok (.if_icmp .le 5, 3) := by decide +kernel
theorem dX6_type_11 : decode cX6_type 11 = .ok (.iconst (-1), 1) := by decide +kernel
theorem dX6_type_12 : decode cX6_type 12 = .ok (.ireturn, 1) := by decide +kernel
theorem dX6_type_13 : decode cX6_type 13 = .ok (.aload_n 0, 1) := by decide +kernel
theorem dX6_type_14 : decode cX6_type 14 = .ok (.getfield 10, 3) := by decide +kernel
theorem dX6_type_17 : decode cX6_type 17 = .ok (.getfield 65, 3) := by decide +kernel
theorem dX6_type_20 : decode cX6_type 20 = .ok (.iload_n 3, 1) := by decide +kernel
theorem dX6_type_21 : decode cX6_type 21 = .ok (.iadd, 1) := by decide +kernel
theorem dX6_type_22 : decode cX6_type 22 = .ok (.sipush 300, 3) := by decide +kernel
theorem dX6_type_25 : decode cX6_type 25 = .ok (.if_icmp .le 6, 3) := by decide +kernel
theorem dX6_type_28 : decode cX6_type 28 = .ok (.bipush (-3), 2) := by decide +kernel
theorem dX6_type_30 : decode cX6_type 30 = .ok (.ireturn, 1) := by decide +kernel
theorem dX6_type_31 : decode cX6_type 31 = .ok (.iload_n 3, 1) := by decide +kernel
theorem dX6_type_32 : decode cX6_type 32 = .ok (.iconst 1, 1) := by decide +kernel
theorem dX6_type_33 : decode cX6_type 33 = .ok (.isub, 1) := by decide +kernel
theorem dX6_type_34 : decode cX6_type 34 = .ok (.istore 4, 2) := by decide +kernel
theorem dX6_type_36 : decode cX6_type 36 = .ok (.iload 4, 2) := by decide +kernel
theorem dX6_type_38 : decode cX6_type 38 = .ok (.ifCond .lt 28, 3) := by decide +kernel
theorem dX6_type_41 : decode cX6_type 41 = .ok (.aload_n 0, 1) := by decide +kernel
theorem dX6_type_42 : decode cX6_type 42 = .ok (.getfield 10, 3) := by decide +kernel
theorem dX6_type_45 : decode cX6_type 45 = .ok (.lload_n 1, 1) := by decide +kernel
theorem dX6_type_46 : decode cX6_type 46 = .ok (.bipush 8, 2) := by decide +kernel
theorem dX6_type_48 : decode cX6_type 48 = .ok (.iload 4, 2) := by decide +kernel
theorem dX6_type_50 : decode cX6_type 50 = .ok (.imul, 1) := by decide +kernel
theorem dX6_type_51 : decode cX6_type 51 = .ok (.lushr, 1) := by decide +kernel
theorem dX6_type_52 : decode cX6_type 52 = .ok (.l2i, 1) := by decide +kernel
theorem dX6_type_53 : decode cX6_type 53 = .ok (.sipush 255, 3) := by decide +kernel
theorem dX6_type_56 : decode cX6_type 56 = .ok (.iand, 1) := by decide +kernel
theorem dX6_type_57 : decode cX6_type 57 = .ok (.invokevirtual 69, 3) := by decide +kernel
theorem dX6_type_60 : decode cX6_type 60 = .ok (.iinc 4 (-1), 3) := by decide +kernel
theorem dX6_type_63 : decode cX6_type 63 = .ok (.goto (-27), 3) := by decide +kernel
theorem dX6_type_66 : decode cX6_type 66 = .ok (.aload_n 0, 1) := by decide +kernel
theorem dX6_type_67 : decode cX6_type 67 = .ok (.getfield 10, 3) := by decide +kernel
theorem dX6_type_70 : decode cX6_type 70 = .ok (.getfield 65, 3) := by decide +kernel
theorem dX6_type_73 : decode cX6_type 73 = .ok (.ireturn, 1) := by decide +kernel
theorem dX6_clear_0 : decode cX6_clear 0 = .ok (.aload_n 0, 1) := by decide +kernel
theorem dX6_clear_1 : decode cX6_clear 1 = .ok (.getfield 10, 3) := by decide +kernel
theorem dX6_clear_4 : decode cX6_clear 4 = .ok (.getfield 65, 3) := by decide +kernel
theorem dX6_clear_7 : decode cX6_clear 7 = .ok (.istore_n 1, 1) := by decide +kernel
theorem dX6_clear_8 : decode cX6_clear 8 = .ok (.aload_n 0, 1) := by decide +kernel
theorem dX6_clear_9 : decode cX6_clear 9 = .ok (.getfield 10, 3) := by decide +kernel
theorem dX6_clear_12 : decode cX6_clear 12 = .ok (.iconst 0, 1) := by decide +kernel
theorem dX6_clear_13 : decode cX6_clear 13 = .ok (.putfield 65, 3) := by decide +kernel
theorem dX6_clear_16 : decode cX6_clear 16 = .ok (.iload_n 1, 1) := by decide +kernel
theorem dX6_clear_17 : decode cX6_clear 17 = .ok (.ireturn, 1) := by decide +kernel
theorem dX6_valley_0 : decode cX6_valley 0 = .ok (.aload_n 0, 1) := by decide +kernel
theorem dX6_valley_1 : decode cX6_valley 1 = .ok (.getfield 19, 3) := by decide +kernel
theorem dX6_valley_4 : decode cX6_valley 4 = .ok (.aload_n 0, 1) := by decide +kernel
theorem dX6_valley_5 : decode cX6_valley 5 = .ok (.getfield 10, 3) := by decide +kernel
theorem dX6_valley_8 : decode cX6_valley 8 = .ok (.invokevirtual 73, 3) := by decide +kernel
theorem dX6_valley_11 : decode cX6_valley 11 = .ok (.istore_n 1, 1) := by decide +kernel
theorem dX6_valley_12 : decode cX6_valley 12 = .ok (.iload_n 1, 1) := by decide +kernel
theorem dX6_valley_13 : decode cX6_valley 13 = .ok (.ifCond .ge 14, 3) := by decide +kernel
theorem dX6_valley_16 : decode cX6_valley 16 = .ok (.bipush (-10), 2) := by decide +kernel
theorem dX6_valley_18 : decode cX6_valley 18 = .ok (.aload_n 0, 1) := by decide +kernel
theorem dX6_valley_19 : decode cX6_valley 19 = .ok (.getfield 10, 3) := by decide +kernel
theorem dX6_valley_22 : decode cX6_valley 22 = .ok (.getfield 77, 3) := by decide +kernel
theorem dX6_valley_25 : decode cX6_valley 25 = .ok (.isub, 1) := by decide +kernel
theorem dX6_valley_26 : decode cX6_valley 26 = .ok (.ireturn, 1) := by decide +kernel
theorem dX6_valley_27 : decode cX6_valley 27 = .ok (.aload_n 0, 1) := by decide +kernel
theorem dX6_valley_28 : decode cX6_valley 28 = .ok (.getfield 26, 3) := by decide +kernel
theorem dX6_valley_31 : decode cX6_valley 31 = .ok (.aload_n 0, 1) := by decide +kernel
theorem dX6_valley_32 : decode cX6_valley 32 = .ok (.getfield 19, 3) := by decide +kernel
theorem dX6_valley_35 : decode cX6_valley 35 = .ok (.getfield 80, 3) := by decide +kernel
theorem dX6_valley_38 : decode cX6_valley 38 = .ok (.invokevirtual 81, 3) := by decide +kernel
theorem dX6_valley_41 : decode cX6_valley 41 = .ok (.aload_n 0, 1) := by decide +kernel
theorem dX6_valley_42 : decode cX6_valley 42 = .ok (.getfield 19, 3) := by decide +kernel
theorem dX6_valley_45 : decode cX6_valley 45 = .ok (.getfield 85, 3) := by decide +kernel
theorem dX6_valley_48 : decode cX6_valley 48 = .ok (.aload_n 0, 1) := by decide +kernel
theorem dX6_valley_49 : decode cX6_valley 49 = .ok (.getfield 33, 3) := by decide +kernel
theorem dX6_valley_52 : decode cX6_valley 52 = .ok (.getfield 88, 3) := by decide +kernel
theorem dX6_valley_55 : decode cX6_valley 55 = .ok (.putfield 88, 3) := by decide +kernel
theorem dX6_valley_58 : decode cX6_valley 58 = .ok (.aload_n 0, 1) := by decide +kernel
theorem dX6_valley_59 : decode cX6_valley 59 = .ok (.getfield 33, 3) := by decide +kernel
theorem dX6_valley_62 : decode cX6_valley 62 = .ok (.aload_n 0, 1) := by decide +kernel
theorem dX6_valley_63 : decode cX6_valley 63 = .ok (.getfield 19, 3) := by decide +kernel
theorem dX6_valley_66 : decode cX6_valley 66 = .ok (.getfield 85, 3) := by decide +kernel
theorem dX6_valley_69 : decode cX6_valley 69 = .ok (.invokevirtual 91, 3) := by decide +kernel
theorem dX6_valley_72 : decode cX6_valley 72 = .ok (.aload_n 0, 1) := by decide +kernel
theorem dX6_valley_73 : decode cX6_valley 73 = .ok (.getfield 37, 3) := by decide +kernel
theorem dX6_valley_76 : decode cX6_valley 76 = .ok (.iconst 0, 1) := by decide +kernel
theorem dX6_valley_77 : decode cX6_valley 77 = .ok (.putfield 94, 3) := by decide +kernel
theorem dX6_valley_80 : decode cX6_valley 80 = .ok (.aload_n 0, 1) := by decide +kernel
theorem dX6_valley_81 : decode cX6_valley 81 = .ok (.getfield 40, 3) := by decide +kernel
theorem dX6_valley_84 : decode cX6_valley 84 = .ok (.iconst 0, 1) := by decide +kernel
theorem dX6_valley_85 : decode cX6_valley 85 = .ok (.putfield 94, 3) := by decide +kernel
theorem dX6_valley_88 : decode cX6_valley 88 = .ok (.aload_n 0, 1) := by decide +kernel
theorem dX6_valley_89 : decode cX6_valley 89 = .ok (.getfield 10, 3) := by decide +kernel
theorem dX6_valley_92 : decode cX6_valley 92 = .ok (.iconst 0, 1) := by decide +kernel
theorem dX6_valley_93 : decode cX6_valley 93 = .ok (.putfield 65, 3) := by decide +kernel
theorem dX6_valley_96 : decode cX6_valley 96 = .ok (.iload_n 1, 1) := by decide +kernel
theorem dX6_valley_97 : decode cX6_valley 97 = .ok (.ireturn, 1) := by decide +kernel
theorem dX6_house_0 : decode cX6_house 0 = .ok (.aload_n 0, 1) := by decide +kernel
theorem dX6_house_1 : decode cX6_house 1 = .ok (.getfield 33, 3) := by decide +kernel
theorem dX6_house_4 : decode cX6_house 4 = .ok (.iload_n 1, 1) := by decide +kernel
theorem dX6_house_5 : decode cX6_house 5 = .ok (.invokevirtual 98, 3) := by decide +kernel
theorem dX6_house_8 : decode cX6_house 8 = .ok (.ifCond .eq 12, 3) := by decide +kernel
theorem dX6_house_11 : decode cX6_house 11 = .ok (.iload_n 2, 1) := by decide +kernel
theorem dX6_house_12 : decode cX6_house 12 = .ok (.ifCond .lt 8, 3) := by decide +kernel
theorem dX6_house_15 : decode cX6_house 15 = .ok (.iload_n 2, 1) := by decide +kernel
theorem dX6_house_16 : decode cX6_house 16 = .ok (.iconst 5, 1) := by decide +kernel
theorem dX6_house_17 : decode cX6_house 17 = .ok (.if_icmp .le 5, 3) := by decide +kernel
theorem dX6_house_20 : decode cX6_house 20 = .ok (.iconst (-1), 1) := by decide +kernel
theorem dX6_house_21 : decode cX6_house 21 = .ok (.ireturn, 1) := by decide +kernel
theorem dX6_house_22 : decode cX6_house 22 = .ok (.iload_n 2, 1) := by decide +kernel
theorem dX6_house_23 : decode cX6_house 23 = .ok (.iconst 5, 1) := by decide +kernel
theorem dX6_house_24 : decode cX6_house 24 = .ok (.if_icmp .ge 15, 3) := by decide +kernel
theorem dX6_house_27 : decode cX6_house 27 = .ok (.aload_n 0, 1) := by decide +kernel
theorem dX6_house_28 : decode cX6_house 28 = .ok (.getfield 33, 3) := by decide +kernel
theorem dX6_house_31 : decode cX6_house 31 = .ok (.iload_n 1, 1) := by decide +kernel
theorem dX6_house_32 : decode cX6_house 32 = .ok (.iload_n 2, 1) := by decide +kernel
theorem dX6_house_33 : decode cX6_house 33 = .ok (.invokevirtual 102, 3) := by decide +kernel
theorem dX6_house_36 : decode cX6_house 36 = .ok (.goto 11, 3) := by decide +kernel
theorem dX6_house_39 : decode cX6_house 39 = .ok (.aload_n 0, 1) := by decide +kernel
theorem dX6_house_40 : decode cX6_house 40 = .ok (.getfield 33, 3) := by decide +kernel
theorem dX6_house_43 : decode cX6_house 43 = .ok (.iload_n 1, 1) := by decide +kernel
theorem dX6_house_44 : decode cX6_house 44 = .ok (.invokevirtual 106, 3) := by decide +kernel
theorem dX6_house_47 : decode cX6_house 47 = .ok (.ireturn, 1) := by decide +kernel
theorem dX6_dish_0 : decode cX6_dish 0 = .ok (.aload_n 0, 1) := by decide +kernel
theorem dX6_dish_1 : decode cX6_dish 1 = .ok (.getfield 26, 3) := by decide +kernel
theorem dX6_dish_4 : decode cX6_dish 4 = .ok (.iload_n 1, 1) := by decide +kernel
theorem dX6_dish_5 : decode cX6_dish 5 = .ok (.invokevirtual 110, 3) := by decide +kernel
theorem dX6_dish_8 : decode cX6_dish 8 = .ok (.ifCond .eq 7, 3) := by decide +kernel
theorem dX6_dish_11 : decode cX6_dish 11 = .ok (.iload_n 2, 1) := by decide +kernel
theorem dX6_dish_12 : decode cX6_dish 12 = .ok (.ifCond .ge 5, 3) := by decide +kernel
theorem dX6_dish_15 : decode cX6_dish 15 = .ok (.iconst (-1), 1) := by decide +kernel
theorem dX6_dish_16 : decode cX6_dish 16 = .ok (.ireturn, 1) := by decide +kernel
theorem dX6_dish_17 : decode cX6_dish 17 = .ok (.iload_n 2, 1) := by decide +kernel
theorem dX6_dish_18 : decode cX6_dish 18 = .ok (.iconst 5, 1) := by decide +kernel
theorem dX6_dish_19 : decode cX6_dish 19 = .ok (.if_icmp .ge 13, 3) := by decide +kernel
theorem dX6_dish_22 : decode cX6_dish 22 = .ok (.aload_n 0, 1) := by decide +kernel
theorem dX6_dish_23 : decode cX6_dish 23 = .ok (.getfield 26, 3) := by decide +kernel
theorem dX6_dish_26 : decode cX6_dish 26 = .ok (.iload_n 1, 1) := by decide +kernel
theorem dX6_dish_27 : decode cX6_dish 27 = .ok (.iload_n 2, 1) := by decide +kernel
theorem dX6_dish_28 : decode cX6_dish 28 = .ok (.invokevirtual 113, 3) := by decide +kernel
theorem dX6_dish_31 : decode cX6_dish 31 = .ok (.ireturn, 1) := by decide +kernel
theorem dX6_dish_32 : decode cX6_dish 32 = .ok (.iload_n 2, 1) := by decide +kernel
theorem dX6_dish_33 : decode cX6_dish 33 = .ok (.tableswitch 57 5 7 #[27, 37, 47], 27) := by decide +kernel
theorem dX6_dish_60 : decode cX6_dish 60 = .ok (.aload_n 0, 1) := by decide +kernel
theorem dX6_dish_61 : decode cX6_dish 61 = .ok (.getfield 26, 3) := by decide +kernel
theorem dX6_dish_64 : decode cX6_dish 64 = .ok (.getfield 116, 3) := by decide +kernel
theorem dX6_dish_67 : decode cX6_dish 67 = .ok (.iload_n 1, 1) := by decide +kernel
theorem dX6_dish_68 : decode cX6_dish 68 = .ok (.iaload, 1) := by decide +kernel
theorem dX6_dish_69 : decode cX6_dish 69 = .ok (.ireturn, 1) := by decide +kernel
theorem dX6_dish_70 : decode cX6_dish 70 = .ok (.aload_n 0, 1) := by decide +kernel
theorem dX6_dish_71 : decode cX6_dish 71 = .ok (.getfield 26, 3) := by decide +kernel
theorem dX6_dish_74 : decode cX6_dish 74 = .ok (.getfield 119, 3) := by decide +kernel
theorem dX6_dish_77 : decode cX6_dish 77 = .ok (.iload_n 1, 1) := by decide +kernel
theorem dX6_dish_78 : decode cX6_dish 78 = .ok (.iaload, 1) := by decide +kernel
theorem dX6_dish_79 : decode cX6_dish 79 = .ok (.ireturn, 1) := by decide +kernel
theorem dX6_dish_80 : decode cX6_dish 80 = .ok (.aload_n 0, 1) := by decide +kernel
theorem dX6_dish_81 : decode cX6_dish 81 = .ok (.getfield 26, 3) := by decide +kernel
theorem dX6_dish_84 : decode cX6_dish 84 = .ok (.getfield 122, 3) := by decide +kernel
theorem dX6_dish_87 : decode cX6_dish 87 = .ok (.iload_n 1, 1) := by decide +kernel
theorem dX6_dish_88 : decode cX6_dish 88 = .ok (.iaload, 1) := by decide +kernel
theorem dX6_dish_89 : decode cX6_dish 89 = .ok (.ireturn, 1) := by decide +kernel
theorem dX6_dish_90 : decode cX6_dish 90 = .ok (.iconst (-1), 1) := by decide +kernel
theorem dX6_dish_91 : decode cX6_dish 91 = .ok (.ireturn, 1) := by decide +kernel
theorem dX6_cook_0 : decode cX6_cook 0 = .ok (.aload_n 0, 1) := by decide +kernel
theorem dX6_cook_1 : decode cX6_cook 1 = .ok (.getfield 33, 3) := by decide +kernel
theorem dX6_cook_4 : decode cX6_cook 4 = .ok (.iload_n 1, 1) := by decide +kernel
theorem dX6_cook_5 : decode cX6_cook 5 = .ok (.invokevirtual 98, 3) := by decide +kernel
theorem dX6_cook_8 : decode cX6_cook 8 = .ok (.ifCond .eq 14, 3) := by decide +kernel
theorem dX6_cook_11 : decode cX6_cook 11 = .ok (.aload_n 0, 1) := by decide +kernel
theorem dX6_cook_12 : decode cX6_cook 12 = .ok (.getfield 26, 3) := by decide +kernel
theorem dX6_cook_15 : decode cX6_cook 15 = .ok (.iload_n 2, 1) := by decide +kernel
theorem dX6_cook_16 : decode cX6_cook 16 = .ok (.invokevirtual 110, 3) := by decide +kernel
theorem dX6_cook_19 : decode cX6_cook 19 = .ok (.ifCond .ne 5, 3) := by decide +kernel
theorem dX6_cook_22 : decode cX6_cook 22 = .ok (.iconst (-1), 1) := by decide +kernel
theorem dX6_cook_23 : decode cX6_cook 23 = .ok (.ireturn, 1) := by decide +kernel
theorem dX6_cook_24 : decode cX6_cook 24 = .ok (.aload_n 0, 1) := by decide +kernel
theorem dX6_cook_25 : decode cX6_cook 25 = .ok (.iload_n 1, 1) := by decide +kernel
theorem dX6_cook_26 : decode cX6_cook 26 = .ok (.iload_n 2, 1) := by decide +kernel
theorem dX6_cook_27 : decode cX6_cook 27 = .ok (.invokevirtual 125, 3) := by decide +kernel
theorem dX6_cook_30 : decode cX6_cook 30 = .ok (.ifCond .ne 6, 3) := by decide +kernel
theorem dX6_cook_33 : decode cX6_cook 33 = .ok (.bipush (-2), 2) := by decide +kernel
theorem dX6_cook_35 : decode cX6_cook 35 = .ok (.ireturn, 1) := by decide +kernel
theorem dX6_cook_36 : decode cX6_cook 36 = .ok (.aload_n 0, 1) := by decide +kernel
theorem dX6_cook_37 : decode cX6_cook 37 = .ok (.getfield 33, 3) := by decide +kernel
theorem dX6_cook_40 : decode cX6_cook 40 = .ok (.getfield 129, 3) := by decide +kernel
theorem dX6_cook_43 : decode cX6_cook 43 = .ok (.bipush 20, 2) := by decide +kernel
theorem dX6_cook_45 : decode cX6_cook 45 = .ok (.if_icmp .lt 6, 3) := by decide +kernel
theorem dX6_cook_48 : decode cX6_cook 48 = .ok (.bipush (-3), 2) := by decide +kernel
theorem dX6_cook_50 : decode cX6_cook 50 = .ok (.ireturn, 1) := by decide +kernel
theorem dX6_cook_51 : decode cX6_cook 51 = .ok (.iconst 0, 1) := by decide +kernel
theorem dX6_cook_52 : decode cX6_cook 52 = .ok (.istore_n 3, 1) := by decide +kernel
theorem dX6_cook_53 : decode cX6_cook 53 = .ok (.iload_n 3, 1) := by decide +kernel
theorem dX6_cook_54 : decode cX6_cook 54 = .ok (.iconst 5, 1) := by decide +kernel
theorem dX6_cook_55 : decode cX6_cook 55 = .ok (.if_icmp .ge 28, 3) := by decide +kernel
theorem dX6_cook_58 : decode cX6_cook 58 = .ok (.aload_n 0, 1) := by decide +kernel
theorem dX6_cook_59 : decode cX6_cook 59 = .ok (.getfield 33, 3) := by decide +kernel
theorem dX6_cook_62 : decode cX6_cook 62 = .ok (.iload_n 1, 1) := by decide +kernel
theorem dX6_cook_63 : decode cX6_cook 63 = .ok (.iload_n 3, 1) := by decide +kernel
theorem dX6_cook_64 : decode cX6_cook 64 = .ok (.aload_n 0, 1) := by decide +kernel
theorem dX6_cook_65 : decode cX6_cook 65 = .ok (.getfield 26, 3) := by decide +kernel
theorem dX6_cook_68 : decode cX6_cook 68 = .ok (.iload_n 2, 1) := by decide +kernel
theorem dX6_cook_69 : decode cX6_cook 69 = .ok (.iload_n 3, 1) := by decide +kernel
theorem dX6_cook_70 : decode cX6_cook 70 = .ok (.invokevirtual 113, 3) := by decide +kernel
theorem dX6_cook_73 : decode cX6_cook 73 = .ok (.ineg, 1) := by decide +kernel
theorem dX6_cook_74 : decode cX6_cook 74 = .ok (.invokevirtual 132, 3) := by decide +kernel
theorem dX6_cook_77 : decode cX6_cook 77 = .ok (.iinc 3 1, 3) := by decide +kernel
theorem dX6_cook_80 : decode cX6_cook 80 = .ok (.goto (-27), 3) := by decide +kernel
theorem dX6_cook_83 : decode cX6_cook 83 = .ok (.aload_n 0, 1) := by decide +kernel
theorem dX6_cook_84 : decode cX6_cook 84 = .ok (.getfield 33, 3) := by decide +kernel
theorem dX6_cook_87 : decode cX6_cook 87 = .ok (.iload_n 1, 1) := by decide +kernel
theorem dX6_cook_88 : decode cX6_cook 88 = .ok (.iload_n 2, 1) := by decide +kernel
theorem dX6_cook_89 : decode cX6_cook 89 = .ok (.invokevirtual 136, 3) := by decide +kernel
theorem dX6_cook_92 : decode cX6_cook 92 = .ok (.aload_n 0, 1) := by decide +kernel
theorem dX6_cook_93 : decode cX6_cook 93 = .ok (.getfield 26, 3) := by decide +kernel
theorem dX6_cook_96 : decode cX6_cook 96 = .ok (.getfield 116, 3) := by decide +kernel
theorem dX6_cook_99 : decode cX6_cook 99 = .ok (.iload_n 2, 1) := by decide +kernel
theorem dX6_cook_100 : decode cX6_cook 100 = .ok (.iaload, 1) := by decide +kernel
theorem dX6_cook_101 : decode cX6_cook 101 = .ok (.ireturn, 1) := by decide +kernel
theorem dX6_undo_0 : decode cX6_undo 0 = .ok (.aload_n 0, 1) := by decide +kernel
theorem dX6_undo_1 : decode cX6_undo 1 = .ok (.getfield 33, 3) := by decide +kernel
theorem dX6_undo_4 : decode cX6_undo 4 = .ok (.getfield 129, 3) := by decide +kernel
theorem dX6_undo_7 : decode cX6_undo 7 = .ok (.ifCond .gt 6, 3) := by decide +kernel
theorem dX6_undo_10 : decode cX6_undo 10 = .ok (.bipush (-2), 2) := by decide +kernel
theorem dX6_undo_12 : decode cX6_undo 12 = .ok (.ireturn, 1) := by decide +kernel
theorem dX6_undo_13 : decode cX6_undo 13 = .ok (.aload_n 0, 1) := by decide +kernel
theorem dX6_undo_14 : decode cX6_undo 14 = .ok (.getfield 33, 3) := by decide +kernel
theorem dX6_undo_17 : decode cX6_undo 17 = .ok (.dup, 1) := by decide +kernel
theorem dX6_undo_18 : decode cX6_undo 18 = .ok (.getfield 129, 3) := by decide +kernel
theorem dX6_undo_21 : decode cX6_undo 21 = .ok (.iconst 1, 1) := by decide +kernel
theorem dX6_undo_22 : decode cX6_undo 22 = .ok (.isub, 1) := by decide +kernel
theorem dX6_undo_23 : decode cX6_undo 23 = .ok (.putfield 129, 3) := by decide +kernel
theorem dX6_undo_26 : decode cX6_undo 26 = .ok (.aload_n 0, 1) := by decide +kernel
theorem dX6_undo_27 : decode cX6_undo 27 = .ok (.getfield 33, 3) := by decide +kernel
theorem dX6_undo_30 : decode cX6_undo 30 = .ok (.getfield 140, 3) := by decide +kernel
theorem dX6_undo_33 : decode cX6_undo 33 = .ok (.aload_n 0, 1) := by decide +kernel
theorem dX6_undo_34 : decode cX6_undo 34 = .ok (.getfield 33, 3) := by decide +kernel
theorem dX6_undo_37 : decode cX6_undo 37 = .ok (.getfield 129, 3) := by decide +kernel
theorem dX6_undo_40 : decode cX6_undo 40 = .ok (.iaload, 1) := by decide +kernel
theorem dX6_undo_41 : decode cX6_undo 41 = .ok (.istore_n 1, 1) := by decide +kernel
theorem dX6_undo_42 : decode cX6_undo 42 = .ok (.aload_n 0, 1) := by decide +kernel
theorem dX6_undo_43 : decode cX6_undo 43 = .ok (.getfield 33, 3) := by decide +kernel
theorem dX6_undo_46 : decode cX6_undo 46 = .ok (.getfield 143, 3) := by decide +kernel
theorem dX6_undo_49 : decode cX6_undo 49 = .ok (.aload_n 0, 1) := by decide +kernel
theorem dX6_undo_50 : decode cX6_undo 50 = .ok (.getfield 33, 3) := by decide +kernel
theorem dX6_undo_53 : decode cX6_undo 53 = .ok (.getfield 129, 3) := by decide +kernel
theorem dX6_undo_56 : decode cX6_undo 56 = .ok (.iaload, 1) := by decide +kernel
theorem dX6_undo_57 : decode cX6_undo 57 = .ok (.istore_n 2, 1) := by decide +kernel
theorem dX6_undo_58 : decode cX6_undo 58 = .ok (.iconst 0, 1) := by decide +kernel
theorem dX6_undo_59 : decode cX6_undo 59 = .ok (.istore_n 3, 1) := by decide +kernel
theorem dX6_undo_60 : decode cX6_undo 60 = .ok (.iload_n 3, 1) := by decide +kernel
theorem dX6_undo_61 : decode cX6_undo 61 = .ok (.iconst 5, 1) := by decide +kernel
theorem dX6_undo_62 : decode cX6_undo 62 = .ok (.if_icmp .ge 46, 3) := by decide +kernel
theorem dX6_undo_65 : decode cX6_undo 65 = .ok (.bipush 9, 2) := by decide +kernel
theorem dX6_undo_67 : decode cX6_undo 67 = .ok (.aload_n 0, 1) := by decide +kernel
theorem dX6_undo_68 : decode cX6_undo 68 = .ok (.getfield 33, 3) := by decide +kernel
theorem dX6_undo_71 : decode cX6_undo 71 = .ok (.iload_n 1, 1) := by decide +kernel
theorem dX6_undo_72 : decode cX6_undo 72 = .ok (.iload_n 3, 1) := by decide +kernel
theorem dX6_undo_73 : decode cX6_undo 73 = .ok (.invokevirtual 102, 3) := by decide +kernel
theorem dX6_undo_76 : decode cX6_undo 76 = .ok (.isub, 1) := by decide +kernel
theorem dX6_undo_77 : decode cX6_undo 77 = .ok (.istore 4, 2) := by decide +kernel
theorem dX6_undo_79 : decode cX6_undo 79 = .ok (.aload_n 0, 1) := by decide +kernel
theorem dX6_undo_80 : decode cX6_undo 80 = .ok (.getfield 33, 3) := by decide +kernel
theorem dX6_undo_83 : decode cX6_undo 83 = .ok (.iload_n 1, 1) := by decide +kernel
theorem dX6_undo_84 : decode cX6_undo 84 = .ok (.iload_n 3, 1) := by decide +kernel
theorem dX6_undo_85 : decode cX6_undo 85 = .ok (.iload 4, 2) := by decide +kernel
theorem dX6_undo_87 : decode cX6_undo 87 = .ok (.aload_n 0, 1) := by decide +kernel
theorem dX6_undo_88 : decode cX6_undo 88 = .ok (.getfield 26, 3) := by decide +kernel
theorem dX6_undo_91 : decode cX6_undo 91 = .ok (.iload_n 2, 1) := by decide +kernel
theorem dX6_undo_92 : decode cX6_undo 92 = .ok (.iload_n 3, 1) := by decide +kernel
theorem dX6_undo_93 : decode cX6_undo 93 = .ok (.invokevirtual 113, 3) := by decide +kernel
theorem dX6_undo_96 : decode cX6_undo 96 = .ok (.invokestatic 146, 3) := by decide +kernel
theorem dX6_undo_99 : decode cX6_undo 99 = .ok (.invokevirtual 132, 3) := by decide +kernel
theorem dX6_undo_102 : decode cX6_undo 102 = .ok (.iinc 3 1, 3) := by decide +kernel
theorem dX6_undo_105 : decode cX6_undo 105 = .ok (.goto (-45), 3) := by decide +kernel
theorem dX6_undo_108 : decode cX6_undo 108 = .ok (.aload_n 0, 1) := by decide +kernel
theorem dX6_undo_109 : decode cX6_undo 109 = .ok (.getfield 33, 3) := by decide +kernel
theorem dX6_undo_112 : decode cX6_undo 112 = .ok (.getfield 129, 3) := by decide +kernel
theorem dX6_undo_115 : decode cX6_undo 115 = .ok (.ireturn, 1) := by decide +kernel
theorem dX6_gives_0 : decode cX6_gives 0 = .ok (.aload_n 0, 1) := by decide +kernel
theorem dX6_gives_1 : decode cX6_gives 1 = .ok (.getfield 33, 3) := by decide +kernel
theorem dX6_gives_4 : decode cX6_gives 4 = .ok (.iload_n 1, 1) := by decide +kernel
theorem dX6_gives_5 : decode cX6_gives 5 = .ok (.invokevirtual 98, 3) := by decide +kernel
theorem dX6_gives_8 : decode cX6_gives 8 = .ok (.ifCond .eq 19, 3) := by decide +kernel
theorem dX6_gives_11 : decode cX6_gives 11 = .ok (.aload_n 0, 1) := by decide +kernel
theorem dX6_gives_12 : decode cX6_gives 12 = .ok (.getfield 33, 3) := by decide +kernel
theorem dX6_gives_15 : decode cX6_gives 15 = .ok (.iload_n 2, 1) := by decide +kernel
theorem dX6_gives_16 : decode cX6_gives 16 = .ok (.invokevirtual 98, 3) := by decide +kernel
theorem dX6_gives_19 : decode cX6_gives 19 = .ok (.ifCond .eq 8, 3) := by decide +kernel
theorem dX6_gives_22 : decode cX6_gives 22 = .ok (.iload_n 1, 1) := by decide +kernel
theorem dX6_gives_23 : decode cX6_gives 23 = .ok (.iload_n 2, 1) := by decide +kernel
theorem dX6_gives_24 : decode cX6_gives 24 = .ok (.if_icmp .ne 5, 3) := by decide +kernel
theorem dX6_gives_27 : decode cX6_gives 27 = .ok (.iconst (-1), 1) := by decide +kernel
theorem dX6_gives_28 : decode cX6_gives 28 = .ok (.ireturn, 1) := by decide +kernel
theorem dX6_gives_29 : decode cX6_gives 29 = .ok (.iload_n 3, 1) := by decide +kernel
theorem dX6_gives_30 : decode cX6_gives 30 = .ok (.ifCond .lt 21, 3) := by decide +kernel
theorem dX6_gives_33 : decode cX6_gives 33 = .ok (.iload_n 3, 1) := by decide +kernel
theorem dX6_gives_34 : decode cX6_gives 34 = .ok (.iconst 5, 1) := by decide +kernel
theorem dX6_gives_35 : decode cX6_gives 35 = .ok (.if_icmp .ge 16, 3) := by decide +kernel
theorem dX6_gives_38 : decode cX6_gives 38 = .ok (.iload 4, 2) := by decide +kernel
theorem dX6_gives_40 : decode cX6_gives 40 = .ok (.iconst 1, 1) := by decide +kernel
theorem dX6_gives_41 : decode cX6_gives 41 = .ok (.if_icmp .lt 10, 3) := by decide +kernel
theorem dX6_gives_44 : decode cX6_gives 44 = .ok (.iload 4, 2) := by decide +kernel
theorem dX6_gives_46 : decode cX6_gives 46 = .ok (.bipush 9, 2) := by decide +kernel
theorem dX6_gives_48 : decode cX6_gives 48 = .ok (.if_icmp .le 5, 3) := by decide +kernel
theorem dX6_gives_51 : decode cX6_gives 51 = .ok (.iconst (-1), 1) := by decide +kernel
theorem dX6_gives_52 : decode cX6_gives 52 = .ok (.ireturn, 1) := by decide +kernel
theorem dX6_gives_53 : decode cX6_gives 53 = .ok (.aload_n 0, 1) := by decide +kernel
theorem dX6_gives_54 : decode cX6_gives 54 = .ok (.getfield 33, 3) := by decide +kernel
theorem dX6_gives_57 : decode cX6_gives 57 = .ok (.iload_n 1, 1) := by decide +kernel
theorem dX6_gives_58 : decode cX6_gives 58 = .ok (.iload_n 3, 1) := by decide +kernel
theorem dX6_gives_59 : decode cX6_gives 59 = .ok (.invokevirtual 102, 3) := by decide +kernel
theorem dX6_gives_62 : decode cX6_gives 62 = .ok (.iload 4, 2) := by decide +kernel
theorem dX6_gives_64 : decode cX6_gives 64 = .ok (.if_icmp .ge 6, 3) := by decide +kernel
theorem dX6_gives_67 : decode cX6_gives 67 = .ok (.bipush (-2), 2) := by decide +kernel
theorem dX6_gives_69 : decode cX6_gives 69 = .ok (.ireturn, 1) := by decide +kernel
theorem dX6_gives_70 : decode cX6_gives 70 = .ok (.aload_n 0, 1) := by decide +kernel
theorem dX6_gives_71 : decode cX6_gives 71 = .ok (.getfield 33, 3) := by decide +kernel
theorem dX6_gives_74 : decode cX6_gives 74 = .ok (.iload_n 2, 1) := by decide +kernel
theorem dX6_gives_75 : decode cX6_gives 75 = .ok (.iload_n 3, 1) := by decide +kernel
theorem dX6_gives_76 : decode cX6_gives 76 = .ok (.invokevirtual 102, 3) := by decide +kernel
theorem dX6_gives_79 : decode cX6_gives 79 = .ok (.iload 4, 2) := by decide +kernel
theorem dX6_gives_81 : decode cX6_gives 81 = .ok (.iadd, 1) := by decide +kernel
theorem dX6_gives_82 : decode cX6_gives 82 = .ok (.bipush 9, 2) := by decide +kernel
theorem dX6_gives_84 : decode cX6_gives 84 = .ok (.if_icmp .le 6, 3) := by decide +kernel
theorem dX6_gives_87 : decode cX6_gives 87 = .ok (.bipush (-3), 2) := by decide +kernel
theorem dX6_gives_89 : decode cX6_gives 89 = .ok (.ireturn, 1) := by decide +kernel
theorem dX6_gives_90 : decode cX6_gives 90 = .ok (.aload_n 0, 1) := by decide +kernel
theorem dX6_gives_91 : decode cX6_gives 91 = .ok (.getfield 33, 3) := by decide +kernel
theorem dX6_gives_94 : decode cX6_gives 94 = .ok (.iload_n 1, 1) := by decide +kernel
theorem dX6_gives_95 : decode cX6_gives 95 = .ok (.iload_n 3, 1) := by decide +kernel
theorem dX6_gives_96 : decode cX6_gives 96 = .ok (.iload 4, 2) := by decide +kernel
theorem dX6_gives_98 : decode cX6_gives 98 = .ok (.ineg, 1) := by decide +kernel
theorem dX6_gives_99 : decode cX6_gives 99 = .ok (.invokevirtual 132, 3) := by decide +kernel
theorem dX6_gives_102 : decode cX6_gives 102 = .ok (.aload_n 0, 1) := by decide +kernel
theorem dX6_gives_103 : decode cX6_gives 103 = .ok (.getfield 33, 3) := by decide +kernel
theorem dX6_gives_106 : decode cX6_gives 106 = .ok (.iload_n 2, 1) := by decide +kernel
theorem dX6_gives_107 : decode cX6_gives 107 = .ok (.iload_n 3, 1) := by decide +kernel
theorem dX6_gives_108 : decode cX6_gives 108 = .ok (.iload 4, 2) := by decide +kernel
theorem dX6_gives_110 : decode cX6_gives 110 = .ok (.invokevirtual 132, 3) := by decide +kernel
theorem dX6_gives_113 : decode cX6_gives 113 = .ok (.aload_n 0, 1) := by decide +kernel
theorem dX6_gives_114 : decode cX6_gives 114 = .ok (.getfield 33, 3) := by decide +kernel
theorem dX6_gives_117 : decode cX6_gives 117 = .ok (.iload_n 2, 1) := by decide +kernel
theorem dX6_gives_118 : decode cX6_gives 118 = .ok (.iload_n 3, 1) := by decide +kernel
theorem dX6_gives_119 : decode cX6_gives 119 = .ok (.invokevirtual 102, 3) := by decide +kernel
theorem dX6_gives_122 : decode cX6_gives 122 = .ok (.ireturn, 1) := by decide +kernel
theorem dX6_burns_0 : decode cX6_burns 0 = .ok (.aload_n 0, 1) := by decide +kernel
theorem dX6_burns_1 : decode cX6_burns 1 = .ok (.getfield 33, 3) := by decide +kernel
theorem dX6_burns_4 : decode cX6_burns 4 = .ok (.iload_n 1, 1) := by decide +kernel
theorem dX6_burns_5 : decode cX6_burns 5 = .ok (.invokevirtual 98, 3) := by decide +kernel
theorem dX6_burns_8 : decode cX6_burns 8 = .ok (.ifCond .ne 5, 3) := by decide +kernel
theorem dX6_burns_11 : decode cX6_burns 11 = .ok (.iconst (-1), 1) := by decide +kernel
theorem dX6_burns_12 : decode cX6_burns 12 = .ok (.ireturn, 1) := by decide +kernel
theorem dX6_burns_13 : decode cX6_burns 13 = .ok (.aload_n 0, 1) := by decide +kernel
theorem dX6_burns_14 : decode cX6_burns 14 = .ok (.getfield 33, 3) := by decide +kernel
theorem dX6_burns_17 : decode cX6_burns 17 = .ok (.iload_n 1, 1) := by decide +kernel
theorem dX6_burns_18 : decode cX6_burns 18 = .ok (.invokevirtual 106, 3) := by decide +kernel
theorem dX6_burns_21 : decode cX6_burns 21 = .ok (.istore_n 2, 1) := by decide +kernel
theorem dX6_burns_22 : decode cX6_burns 22 = .ok (.iconst 0, 1) := by decide +kernel
theorem dX6_burns_23 : decode cX6_burns 23 = .ok (.istore_n 3, 1) := by decide +kernel
theorem dX6_burns_24 : decode cX6_burns 24 = .ok (.iload_n 3, 1) := by decide +kernel
theorem dX6_burns_25 : decode cX6_burns 25 = .ok (.iconst 5, 1) := by decide +kernel
theorem dX6_burns_26 : decode cX6_burns 26 = .ok (.if_icmp .ge 28, 3) := by decide +kernel
theorem dX6_burns_29 : decode cX6_burns 29 = .ok (.aload_n 0, 1) := by decide +kernel
theorem dX6_burns_30 : decode cX6_burns 30 = .ok (.getfield 33, 3) := by decide +kernel
theorem dX6_burns_33 : decode cX6_burns 33 = .ok (.iload_n 1, 1) := by decide +kernel
theorem dX6_burns_34 : decode cX6_burns 34 = .ok (.iload_n 3, 1) := by decide +kernel
theorem dX6_burns_35 : decode cX6_burns 35 = .ok (.aload_n 0, 1) := by decide +kernel
theorem dX6_burns_36 : decode cX6_burns 36 = .ok (.getfield 33, 3) := by decide +kernel
theorem dX6_burns_39 : decode cX6_burns 39 = .ok (.iload_n 1, 1) := by decide +kernel
theorem dX6_burns_40 : decode cX6_burns 40 = .ok (.iload_n 3, 1) := by decide +kernel
theorem dX6_burns_41 : decode cX6_burns 41 = .ok (.invokevirtual 102, 3) := by decide +kernel
theorem dX6_burns_44 : decode cX6_burns 44 = .ok (.ineg, 1) := by decide +kernel
theorem dX6_burns_45 : decode cX6_burns 45 = .ok (.invokevirtual 132, 3) := by decide +kernel
theorem dX6_burns_48 : decode cX6_burns 48 = .ok (.iinc 3 1, 3) := by decide +kernel
theorem dX6_burns_51 : decode cX6_burns 51 = .ok (.goto (-27), 3) := by decide +kernel
theorem dX6_burns_54 : decode cX6_burns 54 = .ok (.iload_n 2, 1) := by decide +kernel
theorem dX6_burns_55 : decode cX6_burns 55 = .ok (.ireturn, 1) := by decide +kernel
theorem dX6_plume_0 : decode cX6_plume 0 = .ok (.iload_n 1, 1) := by decide +kernel
theorem dX6_plume_1 : decode cX6_plume 1 = .ok (.ifCond .lt 23, 3) := by decide +kernel
theorem dX6_plume_4 : decode cX6_plume 4 = .ok (.iload_n 1, 1) := by decide +kernel
theorem dX6_plume_5 : decode cX6_plume 5 = .ok (.aload_n 0, 1) := by decide +kernel
theorem dX6_plume_6 : decode cX6_plume 6 = .ok (.getfield 33, 3) := by decide +kernel
theorem dX6_plume_9 : decode cX6_plume 9 = .ok (.getfield 129, 3) := by decide +kernel
theorem dX6_plume_12 : decode cX6_plume 12 = .ok (.if_icmp .ge 12, 3) := by decide +kernel
theorem dX6_plume_15 : decode cX6_plume 15 = .ok (.iload_n 2, 1) := by decide +kernel
theorem dX6_plume_16 : decode cX6_plume 16 = .ok (.ifCond .lt 8, 3) := by decide +kernel
theorem dX6_plume_19 : decode cX6_plume 19 = .ok (.iload_n 2, 1) := by decide +kernel
theorem dX6_plume_20 : decode cX6_plume 20 = .ok (.iconst 1, 1) := by decide +kernel
theorem dX6_plume_21 : decode cX6_plume 21 = .ok (.if_icmp .le 5, 3) := by decide +kernel
theorem dX6_plume_24 : decode cX6_plume 24 = .ok (.iconst (-1), 1) := by decide +kernel
theorem dX6_plume_25 : decode cX6_plume 25 = .ok (.ireturn, 1) := by decide +kernel
theorem dX6_plume_26 : decode cX6_plume 26 = .ok (.iload_n 2, 1) := by decide +kernel
theorem dX6_plume_27 : decode cX6_plume 27 = .ok (.ifCond .ne 15, 3) := by decide +kernel
theorem dX6_plume_30 : decode cX6_plume 30 = .ok (.aload_n 0, 1) := by decide +kernel
theorem dX6_plume_31 : decode cX6_plume 31 = .ok (.getfield 33, 3) := by decide +kernel
theorem dX6_plume_34 : decode cX6_plume 34 = .ok (.getfield 140, 3) := by decide +kernel
theorem dX6_plume_37 : decode cX6_plume 37 = .ok (.iload_n 1, 1) := by decide +kernel
theorem dX6_plume_38 : decode cX6_plume 38 = .ok (.iaload, 1) := by decide +kernel
theorem dX6_plume_39 : decode cX6_plume 39 = .ok (.goto 20, 3) := by decide +kernel
theorem dX6_plume_42 : decode cX6_plume 42 = .ok (.aload_n 0, 1) := by decide +kernel
