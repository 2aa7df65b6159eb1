theorem dX6_imageOf_11 : decode cX6_imageOf 11 = .ok (.aload_n 0, 1) := by decide +kernel
theorem dX6_imageOf_12 : decode cX6_imageOf 12 = .ok (.getfield 40, 3) := by decide +kernel
theorem dX6_imageOf_15 : decode cX6_imageOf 15 = .ok (.areturn, 1) := by decide +kernel
theorem dX6_markOfDish_0 : decode cX6_markOfDish 0 = .ok (.aload_n 0, 1) := by decide +kernel
theorem dX6_markOfDish_1 : decode cX6_markOfDish 1 = .ok (.dup, 1) := by decide +kernel
theorem dX6_markOfDish_2 : decode cX6_markOfDish 2 = .ok (.getfield 61, 3) := by decide +kernel
theorem dX6_markOfDish_5 : decode cX6_markOfDish 5 = .ok (.lconst 1, 1) := by decide +kernel
theorem dX6_markOfDish_6 : decode cX6_markOfDish 6 = .ok (.ladd, 1) := by decide +kernel
theorem dX6_markOfDish_7 : decode cX6_markOfDish 7 = .ok (.putfield 61, 3) := by decide +kernel
theorem dX6_markOfDish_10 : decode cX6_markOfDish 10 = .ok (.aload_n 0, 1) := by decide +kernel
theorem dX6_markOfDish_11 : decode cX6_markOfDish 11 = .ok (.getfield 26, 3) := by decide +kernel
theorem dX6_markOfDish_14 : decode cX6_markOfDish 14 = .ok (.getfield 122, 3) := by decide +kernel
theorem dX6_markOfDish_17 : decode cX6_markOfDish 17 = .ok (.iload_n 1, 1) := by decide +kernel
theorem dX6_markOfDish_18 : decode cX6_markOfDish 18 = .ok (.iaload, 1) := by decide +kernel
theorem dX6_markOfDish_19 : decode cX6_markOfDish 19 = .ok (.ireturn, 1) := by decide +kernel
set_option maxRecDepth 20000 in
theorem ggX6_markOfStew_X6_markOfDish : GoodIn wsX6_markOfStew wsX6_markOfDish := goodIn_r _ [7, 1, 8, 9, 10, 11, 12, 13, 14, 15, 16, 17, 18, 19, 20, 21, 22, 23, 24] (by decide +kernel) (by decide +kernel)
set_option maxRecDepth 20000 in
theorem gX6_markOfStew_X6_markOfDish : GoodIn wsX6_markOfStew (wsV RX6 254 RX6 yX6_markOfDish wsX6_markOfDish) := goodIn_app (goodIn_of _ (by decide +kernel)) ggX6_markOfStew_X6_markOfDish
theorem dX6_markOfStew_0 : decode cX6_markOfStew 0 = .ok (.aload_n 0, 1) := by decide +kernel
theorem dX6_markOfStew_1 : decode cX6_markOfStew 1 = .ok (.dup, 1) := by decide +kernel
theorem dX6_markOfStew_2 : decode cX6_markOfStew 2 = .ok (.getfield 61, 3) := by decide +kernel
theorem dX6_markOfStew_5 : decode cX6_markOfStew 5 = .ok (.ldc2_w 280, 3) := by decide +kernel
theorem dX6_markOfStew_8 : decode cX6_markOfStew 8 = .ok (.ladd, 1) := by decide +kernel
theorem dX6_markOfStew_9 : decode cX6_markOfStew 9 = .ok (.putfield 61, 3) := by decide +kernel
theorem dX6_markOfStew_12 : decode cX6_markOfStew 12 = .ok (.aload_n 0, 1) := by decide +kernel
theorem dX6_markOfStew_13 : decode cX6_markOfStew 13 = .ok (.iload_n 1, 1) := by decide +kernel
theorem dX6_markOfStew_14 : decode cX6_markOfStew 14 = .ok (.invokevirtual 254, 3) := by decide +kernel
theorem dX6_markOfStew_17 : decode cX6_markOfStew 17 = .ok (.iconst 2, 1) := by decide +kernel
theorem dX6_markOfStew_18 : decode cX6_markOfStew 18 = .ok (.imul, 1) := by decide +kernel
theorem dX6_markOfStew_19 : decode cX6_markOfStew 19 = .ok (.ireturn, 1) := by decide +kernel
set_option maxRecDepth 20000 in
theorem ggX6_markOfRoast_X6_markOfDish : GoodIn wsX6_markOfRoast wsX6_markOfDish := goodIn_r _ [9, 1, 3, 10, 11, 12, 13, 14, 15, 16, 17, 18, 19, 20, 21, 22, 23, 24, 25] (by decide +kernel) (by decide +kernel)
set_option maxRecDepth 20000 in
theorem gX6_markOfRoast_X6_markOfDish : GoodIn wsX6_markOfRoast (wsV RX6 254 RX6 yX6_markOfDish wsX6_markOfDish) := goodIn_app (goodIn_of _ (by decide +kernel)) ggX6_markOfRoast_X6_markOfDish
theorem dX6_markOfRoast_0 : decode cX6_markOfRoast 0 = .ok (.aload_n 0, 1) := by decide +kernel
theorem dX6_markOfRoast_1 : decode cX6_markOfRoast 1 = .ok (.dup, 1) := by decide +kernel
theorem dX6_markOfRoast_2 : decode cX6_markOfRoast 2 = .ok (.getfield 61, 3) := by decide +kernel
theorem dX6_markOfRoast_5 : decode cX6_markOfRoast 5 = .ok (.ldc2_w 282, 3) := by decide +kernel
theorem dX6_markOfRoast_8 : decode cX6_markOfRoast 8 = .ok (.ladd, 1) := by decide +kernel
theorem dX6_markOfRoast_9 : decode cX6_markOfRoast 9 = .ok (.putfield 61, 3) := by decide +kernel
theorem dX6_markOfRoast_12 : decode cX6_markOfRoast 12 = .ok (.aload_n 0, 1) := by decide +kernel
theorem dX6_markOfRoast_13 : decode cX6_markOfRoast 13 = .ok (.iload_n 1, 1) := by decide +kernel
theorem dX6_markOfRoast_14 : decode cX6_markOfRoast 14 = .ok (.invokevirtual 254, 3) := by decide +kernel
theorem dX6_markOfRoast_17 : decode cX6_markOfRoast 17 = .ok (.aload_n 0, 1) := by decide +kernel
theorem dX6_markOfRoast_18 : decode cX6_markOfRoast 18 = .ok (.getfield 26, 3) := by decide +kernel
theorem dX6_markOfRoast_21 : decode cX6_markOfRoast 21 = .ok (.getfield 116, 3) := by decide +kernel
theorem dX6_markOfRoast_24 : decode cX6_markOfRoast 24 = .ok (.iload_n 1, 1) := by decide +kernel
theorem dX6_markOfRoast_25 : decode cX6_markOfRoast 25 = .ok (.iaload, 1) := by decide +kernel
theorem dX6_markOfRoast_26 : decode cX6_markOfRoast 26 = .ok (.iadd, 1) := by decide +kernel
theorem dX6_markOfRoast_27 : decode cX6_markOfRoast 27 = .ok (.ireturn, 1) := by decide +kernel
set_option maxRecDepth 20000 in
theorem ggX6_markOfBrides_X6_markOfStew : GoodIn wsX6_markOfBrides wsX6_markOfStew := goodIn_r _ [7, 1, 8, 9, 10, 11, 6, 12, 13, 14, 15, 16, 17, 18, 19, 20, 21, 22, 23, 24, 25, 26, 27, 28, 29] (by decide +kernel) (by decide +kernel)
set_option maxRecDepth 20000 in
theorem gX6_markOfBrides_X6_markOfStew : GoodIn wsX6_markOfBrides (wsV RX6 257 RX6 yX6_markOfStew wsX6_markOfStew) := goodIn_app (goodIn_of _ (by decide +kernel)) ggX6_markOfBrides_X6_markOfStew
theorem dX6_markOfBrides_0 : decode cX6_markOfBrides 0 = .ok (.aload_n 0, 1) := by decide +kernel
theorem dX6_markOfBrides_1 : decode cX6_markOfBrides 1 = .ok (.dup, 1) := by decide +kernel
theorem dX6_markOfBrides_2 : decode cX6_markOfBrides 2 = .ok (.getfield 61, 3) := by decide +kernel
theorem dX6_markOfBrides_5 : decode cX6_markOfBrides 5 = .ok (.ldc2_w 210, 3) := by decide +kernel
theorem dX6_markOfBrides_8 : decode cX6_markOfBrides 8 = .ok (.ladd, 1) := by decide +kernel
theorem dX6_markOfBrides_9 : decode cX6_markOfBrides 9 = .ok (.putfield 61, 3) := by decide +kernel
theorem dX6_markOfBrides_12 : decode cX6_markOfBrides 12 = .ok (.aload_n 0, 1) := by decide +kernel
theorem dX6_markOfBrides_13 : decode cX6_markOfBrides 13 = .ok (.iload_n 1, 1) := by decide +kernel
theorem dX6_markOfBrides_14 : decode cX6_markOfBrides 14 = .ok (.invokevirtual 257, 3) := by decide +kernel
theorem dX6_markOfBrides_17 : decode cX6_markOfBrides 17 = .ok (.iload_n 1, 1) := by decide +kernel
theorem dX6_markOfBrides_18 : decode cX6_markOfBrides 18 = .ok (.iadd, 1) := by decide +kernel
theorem dX6_markOfBrides_19 : decode cX6_markOfBrides 19 = .ok (.ireturn, 1) := by decide +kernel
set_option maxRecDepth 20000 in
theorem ggX6_markOfPoor_X6_markOfRoast : GoodIn wsX6_markOfPoor wsX6_markOfRoast := goodIn_r _ [9, 1, 10, 3, 11, 12, 13, 14, 8, 15, 16, 17, 18, 19, 20, 21, 22, 23, 24, 25, 26, 27, 28, 29, 30, 31] (by decide +kernel) (by decide +kernel)
set_option maxRecDepth 20000 in
theorem gX6_markOfPoor_X6_markOfRoast : GoodIn wsX6_markOfPoor (wsV RX6 260 RX6 yX6_markOfRoast wsX6_markOfRoast) := goodIn_app (goodIn_of _ (by decide +kernel)) ggX6_markOfPoor_X6_markOfRoast
theorem dX6_markOfPoor_0 : decode cX6_markOfPoor 0 = .ok (.aload_n 0, 1) := by decide +kernel
theorem dX6_markOfPoor_1 : decode cX6_markOfPoor 1 = .ok (.dup, 1) := by decide +kernel
theorem dX6_markOfPoor_2 : decode cX6_markOfPoor 2 = .ok (.getfield 61, 3) := by decide +kernel
theorem dX6_markOfPoor_5 : decode cX6_markOfPoor 5 = .ok (.ldc2_w 284, 3) := by decide +kernel
theorem dX6_markOfPoor_8 : decode cX6_markOfPoor 8 = .ok (.ladd, 1) := by decide +kernel
theorem dX6_markOfPoor_9 : decode cX6_markOfPoor 9 = .ok (.putfield 61, 3) := by decide +kernel
theorem dX6_markOfPoor_12 : decode cX6_markOfPoor 12 = .ok (.aload_n 0, 1) := by decide +kernel
theorem dX6_markOfPoor_13 : decode cX6_markOfPoor 13 = .ok (.iload_n 1, 1) := by decide +kernel
theorem dX6_markOfPoor_14 : decode cX6_markOfPoor 14 = .ok (.invokevirtual 260, 3) := by decide +kernel
theorem dX6_markOfPoor_17 : decode cX6_markOfPoor 17 = .ok (.aload_n 0, 1) := by decide +kernel
theorem dX6_markOfPoor_18 : decode cX6_markOfPoor 18 = .ok (.getfield 26, 3) := by decide +kernel
theorem dX6_markOfPoor_21 : decode cX6_markOfPoor 21 = .ok (.getfield 119, 3) := by decide +kernel
theorem dX6_markOfPoor_24 : decode cX6_markOfPoor 24 = .ok (.iload_n 1, 1) := by decide +kernel
theorem dX6_markOfPoor_25 : decode cX6_markOfPoor 25 = .ok (.iaload, 1) := by decide +kernel
theorem dX6_markOfPoor_26 : decode cX6_markOfPoor 26 = .ok (.isub, 1) := by decide +kernel
theorem dX6_markOfPoor_27 : decode cX6_markOfPoor 27 = .ok (.ireturn, 1) := by decide +kernel
set_option maxRecDepth 20000 in
theorem ggX6_markOfBurnt_X6_markOfDish : GoodIn wsX6_markOfBurnt wsX6_markOfDish := goodIn_r _ [9, 1, 10, 11, 12, 13, 14, 15, 16, 17, 18, 19, 20, 21, 30, 31, 32, 33, 34] (by decide +kernel) (by decide +kernel)
set_option maxRecDepth 20000 in
theorem gX6_markOfBurnt_X6_markOfDish : GoodIn wsX6_markOfBurnt (wsV RX6 254 RX6 yX6_markOfDish wsX6_markOfDish) := goodIn_app (goodIn_of _ (by decide +kernel)) ggX6_markOfBurnt_X6_markOfDish
theorem dX6_markOfBurnt_0 : decode cX6_markOfBurnt 0 = .ok (.aload_n 0, 1) := by decide +kernel
theorem dX6_markOfBurnt_1 : decode cX6_markOfBurnt 1 = .ok (.dup, 1) := by decide +kernel
theorem dX6_markOfBurnt_2 : decode cX6_markOfBurnt 2 = .ok (.getfield 61, 3) := by decide +kernel
theorem dX6_markOfBurnt_5 : decode cX6_markOfBurnt 5 = .ok (.ldc2_w 286, 3) := by decide +kernel
theorem dX6_markOfBurnt_8 : decode cX6_markOfBurnt 8 = .ok (.ladd, 1) := by decide +kernel
theorem dX6_markOfBurnt_9 : decode cX6_markOfBurnt 9 = .ok (.putfield 61, 3) := by decide +kernel
theorem dX6_markOfBurnt_12 : decode cX6_markOfBurnt 12 = .ok (.aload_n 0, 1) := by decide +kernel
theorem dX6_markOfBurnt_13 : decode cX6_markOfBurnt 13 = .ok (.iload_n 1, 1) := by decide +kernel
theorem dX6_markOfBurnt_14 : decode cX6_markOfBurnt 14 = .ok (.invokevirtual 254, 3) := by decide +kernel
theorem dX6_markOfBurnt_17 : decode cX6_markOfBurnt 17 = .ok (.aload_n 0, 1) := by decide +kernel
theorem dX6_markOfBurnt_18 : decode cX6_markOfBurnt 18 = .ok (.getfield 33, 3) := by decide +kernel
theorem dX6_markOfBurnt_21 : decode cX6_markOfBurnt 21 = .ok (.getfield 129, 3) := by decide +kernel
theorem dX6_markOfBurnt_24 : decode cX6_markOfBurnt 24 = .ok (.iadd, 1) := by decide +kernel
theorem dX6_markOfBurnt_25 : decode cX6_markOfBurnt 25 = .ok (.ireturn, 1) := by decide +kernel
