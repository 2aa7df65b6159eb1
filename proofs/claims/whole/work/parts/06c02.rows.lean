section
variable {p : Program} {l : Launch} {e : Env} {s : State} {m : MethodId} {args : Array Value} {below : List Frame} {meth : Method} {c : Code} {D : va_G} {q aK aV : Nat → Nat} {T : Nat → ClassId} {A : Nat → Prop}
set_option maxHeartbeats 4000000 in
theorem jSmoke_house_b0_ok (B : XB p s m args meth c A cX6_house 3 (some .int) RX6) {SF : St} {r : Int32}  (x1 : Int32) (x2 : Int32) (S : St) {H : Heap} {locs : List Loc} {ls : Array Slot} (hf : jSmoke_house x1 x2 S = some (r, SF)) (hw : Xw D 40 (cellC T q) q T (ExC aK aV) A s S H locs) (hl : lv_has ls 3 [(0, .ref (q 0)), (1, .int x1), (2, .int x2)]) : XG p l e ({ frames := 2, cells := 0, slots := 0, locals := 45 }) s m args below meth c D 40 (cellC T q) q T A SF (some (.int r)) H locs 0 ls [] := by
  unfold jSmoke_house at hf
  obtain ⟨hx, hb, hr, hml, hown, hts, hlk, hA⟩ := id B
  refine lv_aload_n hx hb dX6_house_0 rfl (lv_at hl 0 rfl) ?_
  refine x_get B hw (Tb := TX6) inX6 0 (by decide) rfl rfl 3 (by decide) u233 (fun _ h => h) rfl dX6_house_1 ?_
  refine lv_iload_n hx hb dX6_house_4 rfl (lv_at hl 1 rfl) ?_
  obtain ⟨v2, S1, hc, hf⟩ := x_bd_some hf
  refine x_callV B ExC_ok hw 19 (by decide) rfl rfl (As := [.int x1]) (rest := []) (st1 := [.int v2]) (jSuppers_hasHouse_ok hc) u398 u399 u400 u42 u401 hdX3_hasHouse rfl ⟨Nat.le_of_ble_eq_true rfl, Nat.le_of_ble_eq_true rfl⟩ ⟨rfl, rfl⟩ hl.1 (Nat.le_of_ble_eq_true rfl) dX6_house_5 (fun H locs hw => ?_) rfl rfl
  refine lv_if_eq (tgt := 20) hx hb dX6_house_8 (by decide) (fun hc => ?_) (fun hc => ?_)
  · have hf := x_pos hc hf
    refine lv_iconst (v := (-1)) hx hb dX6_house_20 (by decide) ?_
    exact x_iret B hw hf dX6_house_21
  · have hf := x_neg hc hf
    refine lv_iload_n hx hb dX6_house_11 rfl (lv_at hl 2 rfl) ?_
    refine lv_if_lt (tgt := 20) hx hb dX6_house_12 (by decide) (fun hc => ?_) (fun hc => ?_)
    · have hf := x_pos hc hf
      refine lv_iconst (v := (-1)) hx hb dX6_house_20 (by decide) ?_
      exact x_iret B hw hf dX6_house_21
    · have hf := x_neg hc hf
      refine lv_iload_n hx hb dX6_house_15 rfl (lv_at hl 2 rfl) ?_
      refine lv_iconst (v := 5) hx hb dX6_house_16 (by decide) ?_
      refine lv_icmp_le (tgt := 22) hx hb dX6_house_17 (by decide) (fun hc => ?_) (fun hc => ?_)
      · have hf := x_pos hc hf
        refine lv_iload_n hx hb dX6_house_22 rfl (lv_at hl 2 rfl) ?_
        refine lv_iconst (v := 5) hx hb dX6_house_23 (by decide) ?_
        refine lv_icmp_ge (tgt := 39) hx hb dX6_house_24 (by decide) (fun hc => ?_) (fun hc => ?_)
        · have hf := x_pos hc hf
          refine lv_aload_n hx hb dX6_house_39 rfl (lv_at hl 0 rfl) ?_
          refine x_get B hw (Tb := TX6) inX6 0 (by decide) rfl rfl 3 (by decide) u233 (fun _ h => h) rfl dX6_house_40 ?_
          refine lv_iload_n hx hb dX6_house_43 rfl (lv_at hl 1 rfl) ?_
          obtain ⟨v4, S3, hc, hf⟩ := x_bd_some hf
          refine x_callV B ExC_ok hw 19 (by decide) rfl rfl (As := [.int x1]) (rest := []) (st1 := [.int v4]) (jSuppers_allStock_ok hc) u406 u407 u408 u42 u409 hdX3_allStock rfl ⟨Nat.le_of_ble_eq_true rfl, Nat.le_of_ble_eq_true rfl⟩ ⟨rfl, rfl⟩ hl.1 (Nat.le_of_ble_eq_true rfl) dX6_house_44 (fun H locs hw => ?_) rfl rfl
          exact x_iret B hw hf dX6_house_47
        · have hf := x_neg hc hf
          refine lv_aload_n hx hb dX6_house_27 rfl (lv_at hl 0 rfl) ?_
          refine x_get B hw (Tb := TX6) inX6 0 (by decide) rfl rfl 3 (by decide) u233 (fun _ h => h) rfl dX6_house_28 ?_
          refine lv_iload_n hx hb dX6_house_31 rfl (lv_at hl 1 rfl) ?_
          refine lv_iload_n hx hb dX6_house_32 rfl (lv_at hl 2 rfl) ?_
          obtain ⟨v6, S5, hc, hf⟩ := x_bd_some hf
          refine x_callV B ExC_ok hw 19 (by decide) rfl rfl (As := [.int x1, .int x2]) (rest := []) (st1 := [.int v6]) (jSuppers_stock_ok hc) u402 u403 u404 u42 u405 hdX3_stock rfl ⟨Nat.le_of_ble_eq_true rfl, Nat.le_of_ble_eq_true rfl⟩ ⟨rfl, rfl⟩ hl.1 (Nat.le_of_ble_eq_true rfl) dX6_house_33 (fun H locs hw => ?_) rfl rfl
          refine lv_goto (tgt := 47) hx hb dX6_house_36 (by decide) ?_
          exact x_iret B hw hf dX6_house_47
      · have hf := x_neg hc hf
        refine lv_iconst (v := (-1)) hx hb dX6_house_20 (by decide) ?_
        exact x_iret B hw hf dX6_house_21

set_option maxHeartbeats 4000000 in
theorem jSmoke_house_ok {x1 : Int32} {x2 : Int32} {S SF : St} {r : Int32} (hf : jSmoke_house x1 x2 S = some (r, SF)) : XMet l D 40 (cellC T q) q T (ExC aK aV) yX6_house cX6_house 3 (some .int) ({ frames := 2, cells := 0, slots := 0, locals := 45 }) [.ref (q 0), .int x1, .int x2] S (some (.int r)) SF := by
  refine x_enter (own := RX6) (by decide +kernel) rfl (Nat.le_of_ble_eq_true rfl) (fun p e s m below meth c A B ls hw hl0 => ?_)
  have hl : lv_has ls 3 [(0, .ref (q 0)), (1, .int x1), (2, .int x2)] := hl0
  exact jSmoke_house_b0_ok B x1 x2 S hf hw hl

set_option maxHeartbeats 4000000 in
theorem jMenu_lists_b0_ok (B : XB p s m args meth c A cX1_lists 2 (some .boolean) RX1) {SF : St} {r : Int32}  (x1 : Int32) (S : St) {H : Heap} {locs : List Loc} {ls : Array Slot} (hf : jMenu_lists x1 S = some (r, SF)) (hw : Xw D 40 (cellC T q) q T (ExC aK aV) A s S H locs) (hl : lv_has ls 2 [(0, .ref (q 14)), (1, .int x1)]) : XG p l e ({ frames := 0, cells := 0, slots := 0, locals := 0 }) s m args below meth c D 40 (cellC T q) q T A SF (some (.int r)) H locs 0 ls [] := by
  unfold jMenu_lists at hf
  obtain ⟨hx, hb, hr, hml, hown, hts, hlk, hA⟩ := id B
  refine lv_iload_n hx hb dX1_lists_0 rfl (lv_at hl 1 rfl) ?_
  refine lv_if_lt (tgt := 16) hx hb dX1_lists_1 (by decide) (fun hc => ?_) (fun hc => ?_)
  · have hf := x_pos hc hf
    refine lv_iconst (v := 0) hx hb dX1_lists_16 (by decide) ?_
    exact x_zret B hw hf dX1_lists_17
  · have hf := x_neg hc hf
    refine lv_iload_n hx hb dX1_lists_4 rfl (lv_at hl 1 rfl) ?_
    refine lv_aload_n hx hb dX1_lists_5 rfl (lv_at hl 0 rfl) ?_
    refine x_get B hw (Tb := TX1) inX1 14 (by decide) rfl rfl 4 (by decide) u112 (fun _ h => h) rfl dX1_lists_6 ?_
    refine lv_icmp_ge (tgt := 16) hx hb dX1_lists_9 (by decide) (fun hc => ?_) (fun hc => ?_)
    · have hf := x_pos hc hf
      refine lv_iconst (v := 0) hx hb dX1_lists_16 (by decide) ?_
      exact x_zret B hw hf dX1_lists_17
    · have hf := x_neg hc hf
      refine lv_iconst (v := 1) hx hb dX1_lists_12 (by decide) ?_
      refine lv_goto (tgt := 17) hx hb dX1_lists_13 (by decide) ?_
      exact x_zret B hw hf dX1_lists_17

set_option maxHeartbeats 4000000 in
theorem jMenu_lists_ok {x1 : Int32} {S SF : St} {r : Int32} (hf : jMenu_lists x1 S = some (r, SF)) : XMet l D 40 (cellC T q) q T (ExC aK aV) yX1_lists cX1_lists 2 (some .boolean) ({ frames := 0, cells := 0, slots := 0, locals := 0 }) [.ref (q 14), .int x1] S (some (.int r)) SF := by
  refine x_enter (own := RX1) (by decide +kernel) rfl (Nat.le_of_ble_eq_true rfl) (fun p e s m below meth c A B ls hw hl0 => ?_)
  have hl : lv_has ls 2 [(0, .ref (q 14)), (1, .int x1)] := hl0
  exact jMenu_lists_b0_ok B x1 S hf hw hl

set_option maxHeartbeats 4000000 in
theorem jMenu_need_b0_ok (B : XB p s m args meth c A cX1_need 3 (some .int) RX1) {SF : St} {r : Int32}  (x1 : Int32) (x2 : Int32) (S : St) {H : Heap} {locs : List Loc} {ls : Array Slot} (hf : jMenu_need x1 x2 S = some (r, SF)) (hw : Xw D 40 (cellC T q) q T (ExC aK aV) A s S H locs) (hl : lv_has ls 3 [(0, .ref (q 14)), (1, .int x1), (2, .int x2)]) : XG p l e ({ frames := 0, cells := 0, slots := 0, locals := 0 }) s m args below meth c D 40 (cellC T q) q T A SF (some (.int r)) H locs 0 ls [] := by
  unfold jMenu_need at hf
  obtain ⟨hx, hb, hr, hml, hown, hts, hlk, hA⟩ := id B
  refine lv_aload_n hx hb dX1_need_0 rfl (lv_at hl 0 rfl) ?_
  refine x_get B hw (Tb := TX1) inX1 14 (by decide) rfl rfl 0 (by decide) u102 (fun _ h => h) rfl dX1_need_1 ?_
  refine lv_iload_n hx hb dX1_need_4 rfl (lv_at hl 1 rfl) ?_
  refine lv_iconst (v := 5) hx hb dX1_need_5 (by decide) ?_
  refine lv_imul hx hb dX1_need_6 ?_
  refine lv_iload_n hx hb dX1_need_7 rfl (lv_at hl 2 rfl) ?_
  refine lv_iadd hx hb dX1_need_8 ?_
  refine x_iald B hw 15 (by decide) rfl dX1_need_9 hf (fun v1 hf => ?_)
  exact x_iret B hw hf dX1_need_10

set_option maxHeartbeats 4000000 in
theorem jMenu_need_ok {x1 : Int32} {x2 : Int32} {S SF : St} {r : Int32} (hf : jMenu_need x1 x2 S = some (r, SF)) : XMet l D 40 (cellC T q) q T (ExC aK aV) yX1_need cX1_need 3 (some .int) ({ frames := 0, cells := 0, slots := 0, locals := 0 }) [.ref (q 14), .int x1, .int x2] S (some (.int r)) SF := by
  refine x_enter (own := RX1) (by decide +kernel) rfl (Nat.le_of_ble_eq_true rfl) (fun p e s m below meth c A B ls hw hl0 => ?_)
  have hl : lv_has ls 3 [(0, .ref (q 14)), (1, .int x1), (2, .int x2)] := hl0
  exact jMenu_need_b0_ok B x1 x2 S hf hw hl

set_option maxHeartbeats 4000000 in
theorem jSmoke_dish_b0_ok (B : XB p s m args meth c A cX6_dish 3 (some .int) RX6) {SF : St} {r : Int32}  (x1 : Int32) (x2 : Int32) (S : St) {H : Heap} {locs : List Loc} {ls : Array Slot} (hf : jSmoke_dish x1 x2 S = some (r, SF)) (hw : Xw D 40 (cellC T q) q T (ExC aK aV) A s S H locs) (hl : lv_has ls 3 [(0, .ref (q 0)), (1, .int x1), (2, .int x2)]) : XG p l e ({ frames := 1, cells := 0, slots := 0, locals := 22 }) s m args below meth c D 40 (cellC T q) q T A SF (some (.int r)) H locs 0 ls [] := by
  unfold jSmoke_dish at hf
  obtain ⟨hx, hb, hr, hml, hown, hts, hlk, hA⟩ := id B
  refine lv_aload_n hx hb dX6_dish_0 rfl (lv_at hl 0 rfl) ?_
  refine x_get B hw (Tb := TX6) inX6 0 (by decide) rfl rfl 2 (by decide) u232 (fun _ h => h) rfl dX6_dish_1 ?_
  refine lv_iload_n hx hb dX6_dish_4 rfl (lv_at hl 1 rfl) ?_
  obtain ⟨v2, S1, hc, hf⟩ := x_bd_some hf
  refine x_callV B ExC_ok hw 14 (by decide) rfl rfl (As := [.int x1]) (rest := []) (st1 := [.int v2]) (jMenu_lists_ok hc) u415 u416 u417 u41 u418 hdX1_lists rfl ⟨Nat.le_of_ble_eq_true rfl, Nat.le_of_ble_eq_true rfl⟩ ⟨rfl, rfl⟩ hl.1 (Nat.le_of_ble_eq_true rfl) dX6_dish_5 (fun H locs hw => ?_) rfl rfl
  refine lv_if_eq (tgt := 15) hx hb dX6_dish_8 (by decide) (fun hc => ?_) (fun hc => ?_)
  · have hf := x_pos hc hf
    refine lv_iconst (v := (-1)) hx hb dX6_dish_15 (by decide) ?_
    exact x_iret B hw hf dX6_dish_16
  · have hf := x_neg hc hf
    refine lv_iload_n hx hb dX6_dish_11 rfl (lv_at hl 2 rfl) ?_
    refine lv_if_ge (tgt := 17) hx hb dX6_dish_12 (by decide) (fun hc => ?_) (fun hc => ?_)
    · have hf := x_pos hc hf
      refine lv_iload_n hx hb dX6_dish_17 rfl (lv_at hl 2 rfl) ?_
      refine lv_iconst (v := 5) hx hb dX6_dish_18 (by decide) ?_
      refine lv_icmp_ge (tgt := 32) hx hb dX6_dish_19 (by decide) (fun hc => ?_) (fun hc => ?_)
      · have hf := x_pos hc hf
        refine lv_iload_n hx hb dX6_dish_32 rfl (lv_at hl 2 rfl) ?_
        by_cases hc5 : x2 = 5
        · have hf := x_pos hc5 hf
          refine lv_tableIn (off := 27) (tgt := 60) hx hb dX6_dish_33 (by rw [hc5]; decide) (by rw [hc5]; decide) (by rw [hc5]; decide) (by decide) ?_
          refine lv_aload_n hx hb dX6_dish_60 rfl (lv_at hl 0 rfl) ?_
          refine x_get B hw (Tb := TX6) inX6 0 (by decide) rfl rfl 2 (by decide) u232 (fun _ h => h) rfl dX6_dish_61 ?_
          refine x_get B hw (Tb := TX1) inX1 14 (by decide) rfl rfl 2 (by decide) u108 (fun _ h => h) rfl dX6_dish_64 ?_
          refine lv_iload_n hx hb dX6_dish_67 rfl (lv_at hl 1 rfl) ?_
          refine x_iald B hw 17 (by decide) rfl dX6_dish_68 hf (fun v3 hf => ?_)
          exact x_iret B hw hf dX6_dish_69
        have hf := x_neg hc5 hf
        by_cases hc6 : x2 = 6
        · have hf := x_pos hc6 hf
          refine lv_tableIn (off := 37) (tgt := 70) hx hb dX6_dish_33 (by rw [hc6]; decide) (by rw [hc6]; decide) (by rw [hc6]; decide) (by decide) ?_
          refine lv_aload_n hx hb dX6_dish_70 rfl (lv_at hl 0 rfl) ?_
          refine x_get B hw (Tb := TX6) inX6 0 (by decide) rfl rfl 2 (by decide) u232 (fun _ h => h) rfl dX6_dish_71 ?_
          refine x_get B hw (Tb := TX1) inX1 14 (by decide) rfl rfl 3 (by decide) u111 (fun _ h => h) rfl dX6_dish_74 ?_
          refine lv_iload_n hx hb dX6_dish_77 rfl (lv_at hl 1 rfl) ?_
          refine x_iald B hw 18 (by decide) rfl dX6_dish_78 hf (fun v4 hf => ?_)
          exact x_iret B hw hf dX6_dish_79
        have hf := x_neg hc6 hf
        by_cases hc7 : x2 = 7
        · have hf := x_pos hc7 hf
          refine lv_tableIn (off := 47) (tgt := 80) hx hb dX6_dish_33 (by rw [hc7]; decide) (by rw [hc7]; decide) (by rw [hc7]; decide) (by decide) ?_
          refine lv_aload_n hx hb dX6_dish_80 rfl (lv_at hl 0 rfl) ?_
          refine x_get B hw (Tb := TX6) inX6 0 (by decide) rfl rfl 2 (by decide) u232 (fun _ h => h) rfl dX6_dish_81 ?_
          refine x_get B hw (Tb := TX1) inX1 14 (by decide) rfl rfl 1 (by decide) u105 (fun _ h => h) rfl dX6_dish_84 ?_
          refine lv_iload_n hx hb dX6_dish_87 rfl (lv_at hl 1 rfl) ?_
          refine x_iald B hw 16 (by decide) rfl dX6_dish_88 hf (fun v5 hf => ?_)
          exact x_iret B hw hf dX6_dish_89
        have hf := x_neg hc7 hf
        have hd5 : ¬ Int32.toInt x2 = 5 := x_ne hc5 (by decide)
        have hd6 : ¬ Int32.toInt x2 = 6 := x_ne hc6 (by decide)
        have hd7 : ¬ Int32.toInt x2 = 7 := x_ne hc7 (by decide)
        refine lv_tableOut (tgt := 90) hx hb dX6_dish_33 (by omega) (by decide) ?_
        refine lv_iconst (v := (-1)) hx hb dX6_dish_90 (by decide) ?_
        exact x_iret B hw hf dX6_dish_91
      · have hf := x_neg hc hf
        refine lv_aload_n hx hb dX6_dish_22 rfl (lv_at hl 0 rfl) ?_
        refine x_get B hw (Tb := TX6) inX6 0 (by decide) rfl rfl 2 (by decide) u232 (fun _ h => h) rfl dX6_dish_23 ?_
        refine lv_iload_n hx hb dX6_dish_26 rfl (lv_at hl 1 rfl) ?_
        refine lv_iload_n hx hb dX6_dish_27 rfl (lv_at hl 2 rfl) ?_
        obtain ⟨v7, S6, hc, hf⟩ := x_bd_some hf
        refine x_callV B ExC_ok hw 14 (by decide) rfl rfl (As := [.int x1, .int x2]) (rest := []) (st1 := [.int v7]) (jMenu_need_ok hc) u419 u420 u421 u41 u422 hdX1_need rfl ⟨Nat.le_of_ble_eq_true rfl, Nat.le_of_ble_eq_true rfl⟩ ⟨rfl, rfl⟩ hl.1 (Nat.le_of_ble_eq_true rfl) dX6_dish_28 (fun H locs hw => ?_) rfl rfl
        exact x_iret B hw hf dX6_dish_31
    · have hf := x_neg hc hf
      refine lv_iconst (v := (-1)) hx hb dX6_dish_15 (by decide) ?_
      exact x_iret B hw hf dX6_dish_16

set_option maxHeartbeats 4000000 in
theorem jSmoke_dish_ok {x1 : Int32} {x2 : Int32} {S SF : St} {r : Int32} (hf : jSmoke_dish x1 x2 S = some (r, SF)) : XMet l D 40 (cellC T q) q T (ExC aK aV) yX6_dish cX6_dish 3 (some .int) ({ frames := 1, cells := 0, slots := 0, locals := 22 }) [.ref (q 0), .int x1, .int x2] S (some (.int r)) SF := by
  refine x_enter (own := RX6) (by decide +kernel) rfl (Nat.le_of_ble_eq_true rfl) (fun p e s m below meth c A B ls hw hl0 => ?_)
  have hl : lv_has ls 3 [(0, .ref (q 0)), (1, .int x1), (2, .int x2)] := hl0
  exact jSmoke_dish_b0_ok B x1 x2 S hf hw hl

set_option maxHeartbeats 4000000 in
theorem jSuppers_fill_39_b2_ok (B : XB p s m args meth c A cX3_fill 4 none RX3) {SF : St} (K2 : Int32 → Int32 → St → Option (St)) (hK2 : ∀ (x1 : Int32) (x3 : Int32) (S : St) (H : Heap) (locs : List Loc) (ls : Array Slot), K2 x1 x3 S = some SF → Xw D 40 (cellC T q) q T (ExC aK aV) A s S H locs → lv_has ls 4 [(0, .ref (q 19)), (1, .int x1), (2, .ref (q 39)), (3, .int x3)] → XG p l e ({ frames := 1, cells := 0, slots := 0, locals := 22 }) s m args below meth c D 40 (cellC T q) q T A SF none H locs 2 ls [])  (x1 : Int32) (x3 : Int32) (S : St) {H : Heap} {locs : List Loc} {ls : Array Slot} (hf : jSuppers_fill_39_b2 K2 x1 x3 S = some SF) (hw : Xw D 40 (cellC T q) q T (ExC aK aV) A s S H locs) (hl : lv_has ls 4 [(0, .ref (q 19)), (1, .int x1), (2, .ref (q 39)), (3, .int x3)]) : XG p l e ({ frames := 1, cells := 0, slots := 0, locals := 22 }) s m args below meth c D 40 (cellC T q) q T A SF none H locs 2 ls [] := by
  unfold jSuppers_fill_39_b2 at hf
  obtain ⟨hx, hb, hr, hml, hown, hts, hlk, hA⟩ := id B
  refine lv_iload_n hx hb dX3_fill_2 rfl (lv_at hl 3 rfl) ?_
  refine lv_iconst (v := 5) hx hb dX3_fill_3 (by decide) ?_
  refine lv_icmp_ge (tgt := 22) hx hb dX3_fill_4 (by decide) (fun hc => ?_) (fun hc => ?_)
  · have hf := x_pos hc hf
    exact x_vret B hw hf dX3_fill_22
  · have hf := x_neg hc hf
    refine lv_aload_n hx hb dX3_fill_7 rfl (lv_at hl 2 rfl) ?_
    refine lv_iload_n hx hb dX3_fill_8 rfl (lv_at hl 3 rfl) ?_
    refine lv_aload_n hx hb dX3_fill_9 rfl (lv_at hl 0 rfl) ?_
    refine lv_iload_n hx hb dX3_fill_10 rfl (lv_at hl 1 rfl) ?_
    refine lv_iload_n hx hb dX3_fill_11 rfl (lv_at hl 3 rfl) ?_
    obtain ⟨v2, S1, hc, hf⟩ := x_bd_some hf
    refine x_callV B ExC_ok hw 19 (by decide) rfl rfl (As := [.int x1, .int x3]) (rest := [.int x3, .ref (q 39)]) (st1 := [.int v2, .int x3, .ref (q 39)]) (jSuppers_stock_ok hc) u410 u403 u404 u42 u405 hdX3_stock rfl ⟨Nat.le_of_ble_eq_true rfl, Nat.le_of_ble_eq_true rfl⟩ ⟨rfl, rfl⟩ hl.1 (Nat.le_of_ble_eq_true rfl) dX3_fill_12 (fun H locs hw => ?_) rfl rfl
    refine x_iast B hw 39 (by decide) (fun _ _ => rfl) dX3_fill_15 hf (fun S3 H locs hw hf => ?_)
    refine lv_iinc (v := x3 + 1) (lv' := [(3, .int (x3 + 1)), (0, .ref (q 19)), (1, .int x1), (2, .ref (q 39))]) hx hb dX3_fill_16 hl (k := 3) rfl xi_1 (by decide) rfl (fun ls hl => ?_)
    refine lv_goto (tgt := 2) hx hb dX3_fill_19 (by decide) ?_
    exact hK2 x1 (x3 + 1) S3 _ _ _ hf hw (lv_sub hl [1, 2, 3, 0] rfl)

theorem jSuppers_fill_39_h2_ok (B : XB p s m args meth c A cX3_fill 4 none RX3) {SF : St} : ∀ (n : Nat) (x1 : Int32) (x3 : Int32) (S : St) (H : Heap) (locs : List Loc) (ls : Array Slot), jSuppers_fill_39_h2 n x1 x3 S = some SF → Xw D 40 (cellC T q) q T (ExC aK aV) A s S H locs → lv_has ls 4 [(0, .ref (q 19)), (1, .int x1), (2, .ref (q 39)), (3, .int x3)] → XG p l e ({ frames := 1, cells := 0, slots := 0, locals := 22 }) s m args below meth c D 40 (cellC T q) q T A SF none H locs 2 ls [] := by
  intro n
  induction n with
  | zero =>
    intro x1 x3 S H locs ls hf hw hl
    rw [jSuppers_fill_39_h2] at hf
    cases hf
  | succ n ih =>
    intro x1 x3 S H locs ls hf hw hl
    rw [jSuppers_fill_39_h2] at hf
    exact jSuppers_fill_39_b2_ok B (jSuppers_fill_39_h2 n) ih x1 x3 S hf hw hl

set_option maxHeartbeats 4000000 in
theorem jSuppers_fill_39_b0_ok (B : XB p s m args meth c A cX3_fill 4 none RX3) {SF : St}  (x1 : Int32) (S : St) {H : Heap} {locs : List Loc} {ls : Array Slot} (hf : jSuppers_fill_39 x1 S = some SF) (hw : Xw D 40 (cellC T q) q T (ExC aK aV) A s S H locs) (hl : lv_has ls 4 [(0, .ref (q 19)), (1, .int x1), (2, .ref (q 39))]) : XG p l e ({ frames := 1, cells := 0, slots := 0, locals := 22 }) s m args below meth c D 40 (cellC T q) q T A SF none H locs 0 ls [] := by
  unfold jSuppers_fill_39 at hf
  obtain ⟨hx, hb, hr, hml, hown, hts, hlk, hA⟩ := id B
  refine lv_iconst (v := 0) hx hb dX3_fill_0 (by decide) ?_
  refine lv_istore_n (lv' := [(3, .int 0), (0, .ref (q 19)), (1, .int x1), (2, .ref (q 39))]) hx hb dX3_fill_1 rfl hl (by decide) rfl (fun ls hl => ?_)
  exact jSuppers_fill_39_h2_ok B FU x1 0 S _ _ _ hf hw (lv_sub hl [1, 2, 3, 0] rfl)

set_option maxHeartbeats 4000000 in
theorem jSuppers_fill_39_ok {x1 : Int32} {S SF : St} (hf : jSuppers_fill_39 x1 S = some SF) : XMet l D 40 (cellC T q) q T (ExC aK aV) yX3_fill cX3_fill 4 none ({ frames := 1, cells := 0, slots := 0, locals := 22 }) [.ref (q 19), .int x1, .ref (q 39)] S none SF := by
  refine x_enter (own := RX3) (by decide +kernel) rfl (Nat.le_of_ble_eq_true rfl) (fun p e s m below meth c A B ls hw hl0 => ?_)
  have hl : lv_has ls 4 [(0, .ref (q 19)), (1, .int x1), (2, .ref (q 39))] := hl0
  exact jSuppers_fill_39_b0_ok B x1 S hf hw hl

set_option maxHeartbeats 4000000 in
theorem jMenu_fits_39_b2_ok (B : XB p s m args meth c A cX1_fits 4 (some .boolean) RX1) {SF : St} {r : Int32} (K2 : Int32 → Int32 → St → Option (Int32 × St)) (hK2 : ∀ (x1 : Int32) (x3 : Int32) (S : St) (H : Heap) (locs : List Loc) (ls : Array Slot), K2 x1 x3 S = some (r, SF) → Xw D 40 (cellC T q) q T (ExC aK aV) A s S H locs → lv_has ls 4 [(0, .ref (q 14)), (1, .int x1), (2, .ref (q 39)), (3, .int x3)] → XG p l e ({ frames := 1, cells := 0, slots := 0, locals := 22 }) s m args below meth c D 40 (cellC T q) q T A SF (some (.int r)) H locs 2 ls [])  (x1 : Int32) (x3 : Int32) (S : St) {H : Heap} {locs : List Loc} {ls : Array Slot} (hf : jMenu_fits_39_b2 K2 x1 x3 S = some (r, SF)) (hw : Xw D 40 (cellC T q) q T (ExC aK aV) A s S H locs) (hl : lv_has ls 4 [(0, .ref (q 14)), (1, .int x1), (2, .ref (q 39)), (3, .int x3)]) : XG p l e ({ frames := 1, cells := 0, slots := 0, locals := 22 }) s m args below meth c D 40 (cellC T q) q T A SF (some (.int r)) H locs 2 ls [] := by
  unfold jMenu_fits_39_b2 at hf
  obtain ⟨hx, hb, hr, hml, hown, hts, hlk, hA⟩ := id B
  refine lv_iload_n hx hb dX1_fits_2 rfl (lv_at hl 3 rfl) ?_
  refine lv_iconst (v := 5) hx hb dX1_fits_3 (by decide) ?_
  refine lv_icmp_ge (tgt := 27) hx hb dX1_fits_4 (by decide) (fun hc => ?_) (fun hc => ?_)
  · have hf := x_pos hc hf
    refine lv_iconst (v := 1) hx hb dX1_fits_27 (by decide) ?_
    exact x_zret B hw hf dX1_fits_28
  · have hf := x_neg hc hf
    refine lv_aload_n hx hb dX1_fits_7 rfl (lv_at hl 0 rfl) ?_
    refine lv_iload_n hx hb dX1_fits_8 rfl (lv_at hl 1 rfl) ?_
    refine lv_iload_n hx hb dX1_fits_9 rfl (lv_at hl 3 rfl) ?_
    obtain ⟨v2, S1, hc, hf⟩ := x_bd_some hf
    refine x_callV B ExC_ok hw 14 (by decide) rfl rfl (As := [.int x1, .int x3]) (rest := []) (st1 := [.int v2]) (jMenu_need_ok hc) u439 u420 u421 u41 u422 hdX1_need rfl ⟨Nat.le_of_ble_eq_true rfl, Nat.le_of_ble_eq_true rfl⟩ ⟨rfl, rfl⟩ hl.1 (Nat.le_of_ble_eq_true rfl) dX1_fits_10 (fun H locs hw => ?_) rfl rfl
    refine lv_aload_n hx hb dX1_fits_13 rfl (lv_at hl 2 rfl) ?_
    refine lv_iload_n hx hb dX1_fits_14 rfl (lv_at hl 3 rfl) ?_
    refine x_iald B hw 39 (by decide) rfl dX1_fits_15 hf (fun v3 hf => ?_)
    refine lv_icmp_le (tgt := 21) hx hb dX1_fits_16 (by decide) (fun hc => ?_) (fun hc => ?_)
    · have hf := x_pos hc hf
      refine lv_iinc (v := x3 + 1) (lv' := [(3, .int (x3 + 1)), (0, .ref (q 14)), (1, .int x1), (2, .ref (q 39))]) hx hb dX1_fits_21 hl (k := 3) rfl xi_1 (by decide) rfl (fun ls hl => ?_)
      refine lv_goto (tgt := 2) hx hb dX1_fits_24 (by decide) ?_
      exact hK2 x1 (x3 + 1) S1 _ _ _ hf hw (lv_sub hl [1, 2, 3, 0] rfl)
    · have hf := x_neg hc hf
      refine lv_iconst (v := 0) hx hb dX1_fits_19 (by decide) ?_
      exact x_zret B hw hf dX1_fits_20

theorem jMenu_fits_39_h2_ok (B : XB p s m args meth c A cX1_fits 4 (some .boolean) RX1) {SF : St} {r : Int32} : ∀ (n : Nat) (x1 : Int32) (x3 : Int32) (S : St) (H : Heap) (locs : List Loc) (ls : Array Slot), jMenu_fits_39_h2 n x1 x3 S = some (r, SF) → Xw D 40 (cellC T q) q T (ExC aK aV) A s S H locs → lv_has ls 4 [(0, .ref (q 14)), (1, .int x1), (2, .ref (q 39)), (3, .int x3)] → XG p l e ({ frames := 1, cells := 0, slots := 0, locals := 22 }) s m args below meth c D 40 (cellC T q) q T A SF (some (.int r)) H locs 2 ls [] := by
  intro n
  induction n with
  | zero =>
    intro x1 x3 S H locs ls hf hw hl
    rw [jMenu_fits_39_h2] at hf
    cases hf
  | succ n ih =>
    intro x1 x3 S H locs ls hf hw hl
    rw [jMenu_fits_39_h2] at hf
    exact jMenu_fits_39_b2_ok B (jMenu_fits_39_h2 n) ih x1 x3 S hf hw hl

set_option maxHeartbeats 4000000 in
theorem jMenu_fits_39_b0_ok (B : XB p s m args meth c A cX1_fits 4 (some .boolean) RX1) {SF : St} {r : Int32}  (x1 : Int32) (S : St) {H : Heap} {locs : List Loc} {ls : Array Slot} (hf : jMenu_fits_39 x1 S = some (r, SF)) (hw : Xw D 40 (cellC T q) q T (ExC aK aV) A s S H locs) (hl : lv_has ls 4 [(0, .ref (q 14)), (1, .int x1), (2, .ref (q 39))]) : XG p l e ({ frames := 1, cells := 0, slots := 0, locals := 22 }) s m args below meth c D 40 (cellC T q) q T A SF (some (.int r)) H locs 0 ls [] := by
  unfold jMenu_fits_39 at hf
  obtain ⟨hx, hb, hr, hml, hown, hts, hlk, hA⟩ := id B
  refine lv_iconst (v := 0) hx hb dX1_fits_0 (by decide) ?_
  refine lv_istore_n (lv' := [(3, .int 0), (0, .ref (q 14)), (1, .int x1), (2, .ref (q 39))]) hx hb dX1_fits_1 rfl hl (by decide) rfl (fun ls hl => ?_)
  exact jMenu_fits_39_h2_ok B FU x1 0 S _ _ _ hf hw (lv_sub hl [1, 2, 3, 0] rfl)

set_option maxHeartbeats 4000000 in
theorem jMenu_fits_39_ok {x1 : Int32} {S SF : St} {r : Int32} (hf : jMenu_fits_39 x1 S = some (r, SF)) : XMet l D 40 (cellC T q) q T (ExC aK aV) yX1_fits cX1_fits 4 (some .boolean) ({ frames := 1, cells := 0, slots := 0, locals := 22 }) [.ref (q 14), .int x1, .ref (q 39)] S (some (.int r)) SF := by
  refine x_enter (own := RX1) (by decide +kernel) rfl (Nat.le_of_ble_eq_true rfl) (fun p e s m below meth c A B ls hw hl0 => ?_)
  have hl : lv_has ls 4 [(0, .ref (q 14)), (1, .int x1), (2, .ref (q 39))] := hl0
  exact jMenu_fits_39_b0_ok B x1 S hf hw hl

set_option maxHeartbeats 4000000 in
theorem jSmoke_couldCook_b0_ok (B : XB p s m args meth c A cX6_couldCook 3 (some .boolean) RX6) {SF : St} {r : Int32}  (x1 : Int32) (x2 : Int32) (S : St) {H : Heap} {locs : List Loc} {ls : Array Slot} (hf : jSmoke_couldCook x1 x2 S = some (r, SF)) (hw : Xw D 40 (cellC T q) q T (ExC aK aV) A s S H locs) (hl : lv_has ls 3 [(0, .ref (q 0)), (1, .int x1), (2, .int x2)]) : XG p l e ({ frames := 2, cells := 0, slots := 0, locals := 45 }) s m args below meth c D 40 (cellC T q) q T A SF (some (.int r)) H locs 0 ls [] := by
  unfold jSmoke_couldCook at hf
  obtain ⟨hx, hb, hr, hml, hown, hts, hlk, hA⟩ := id B
  refine lv_aload_n hx hb dX6_couldCook_0 rfl (lv_at hl 0 rfl) ?_
  refine x_get B hw (Tb := TX6) inX6 0 (by decide) rfl rfl 3 (by decide) u233 (fun _ h => h) rfl dX6_couldCook_1 ?_
  refine lv_iload_n hx hb dX6_couldCook_4 rfl (lv_at hl 1 rfl) ?_
  refine lv_aload_n hx hb dX6_couldCook_5 rfl (lv_at hl 0 rfl) ?_
  refine x_get B hw (Tb := TX6) inX6 0 (by decide) rfl rfl 8 (by decide) u238 (fun _ h => h) rfl dX6_couldCook_6 ?_
  obtain ⟨S1, hc, hf⟩ := x_bv_some hf
  refine x_callV B ExC_ok hw 19 (by decide) rfl rfl (As := [.int x1, .ref (q 39)]) (rest := []) (st1 := []) (jSuppers_fill_39_ok hc) u431 u432 u433 u42 u434 hdX3_fill rfl ⟨Nat.le_of_ble_eq_true rfl, Nat.le_of_ble_eq_true rfl⟩ ⟨rfl, rfl⟩ hl.1 (Nat.le_of_ble_eq_true rfl) dX6_couldCook_9 (fun H locs hw => ?_) rfl rfl
  refine lv_aload_n hx hb dX6_couldCook_12 rfl (lv_at hl 0 rfl) ?_
  refine x_get B hw (Tb := TX6) inX6 0 (by decide) rfl rfl 2 (by decide) u232 (fun _ h => h) rfl dX6_couldCook_13 ?_
  refine lv_iload_n hx hb dX6_couldCook_16 rfl (lv_at hl 2 rfl) ?_
  refine lv_aload_n hx hb dX6_couldCook_17 rfl (lv_at hl 0 rfl) ?_
  refine x_get B hw (Tb := TX6) inX6 0 (by decide) rfl rfl 8 (by decide) u238 (fun _ h => h) rfl dX6_couldCook_18 ?_
  obtain ⟨v3, S2, hc, hf⟩ := x_bd_some hf
  refine x_callV B ExC_ok hw 14 (by decide) rfl rfl (As := [.int x2, .ref (q 39)]) (rest := []) (st1 := [.int v3]) (jMenu_fits_39_ok hc) u435 u436 u437 u41 u438 hdX1_fits rfl ⟨Nat.le_of_ble_eq_true rfl, Nat.le_of_ble_eq_true rfl⟩ ⟨rfl, rfl⟩ hl.1 (Nat.le_of_ble_eq_true rfl) dX6_couldCook_21 (fun H locs hw => ?_) rfl rfl
  exact x_zret B hw hf dX6_couldCook_24

set_option maxHeartbeats 4000000 in
theorem jSmoke_couldCook_ok {x1 : Int32} {x2 : Int32} {S SF : St} {r : Int32} (hf : jSmoke_couldCook x1 x2 S = some (r, SF)) : XMet l D 40 (cellC T q) q T (ExC aK aV) yX6_couldCook cX6_couldCook 3 (some .boolean) ({ frames := 2, cells := 0, slots := 0, locals := 45 }) [.ref (q 0), .int x1, .int x2] S (some (.int r)) SF := by
  refine x_enter (own := RX6) (by decide +kernel) rfl (Nat.le_of_ble_eq_true rfl) (fun p e s m below meth c A B ls hw hl0 => ?_)
  have hl : lv_has ls 3 [(0, .ref (q 0)), (1, .int x1), (2, .int x2)] := hl0
  exact jSmoke_couldCook_b0_ok B x1 x2 S hf hw hl

set_option maxHeartbeats 4000000 in
theorem jSuppers_rise_b0_ok (B : XB p s m args meth c A cX3_rise 3 none RX3) {SF : St}  (x1 : Int32) (x2 : Int32) (S : St) {H : Heap} {locs : List Loc} {ls : Array Slot} (hf : jSuppers_rise x1 x2 S = some SF) (hw : Xw D 40 (cellC T q) q T (ExC aK aV) A s S H locs) (hl : lv_has ls 3 [(0, .ref (q 19)), (1, .int x1), (2, .int x2)]) : XG p l e ({ frames := 0, cells := 0, slots := 0, locals := 0 }) s m args below meth c D 40 (cellC T q) q T A SF none H locs 0 ls [] := by
  unfold jSuppers_rise at hf
  obtain ⟨hx, hb, hr, hml, hown, hts, hlk, hA⟩ := id B
  refine lv_aload_n hx hb dX3_rise_0 rfl (lv_at hl 0 rfl) ?_
  refine x_get B hw (Tb := TX3) inX3 19 (by decide) rfl rfl 4 (by decide) u141 (fun _ h => h) rfl dX3_rise_1 ?_
  refine lv_bipush (v := 20) hx hb dX3_rise_4 (by decide) ?_
  refine lv_icmp_lt (tgt := 10) hx hb dX3_rise_6 (by decide) (fun hc => ?_) (fun hc => ?_)
  · have hf := x_pos hc hf
    refine lv_aload_n hx hb dX3_rise_10 rfl (lv_at hl 0 rfl) ?_
    refine x_get B hw (Tb := TX3) inX3 19 (by decide) rfl rfl 1 (by decide) u134 (fun _ h => h) rfl dX3_rise_11 ?_
    refine lv_aload_n hx hb dX3_rise_14 rfl (lv_at hl 0 rfl) ?_
    refine x_get B hw (Tb := TX3) inX3 19 (by decide) rfl rfl 4 (by decide) u141 (fun _ h => h) rfl dX3_rise_15 ?_
    refine lv_iload_n hx hb dX3_rise_18 rfl (lv_at hl 1 rfl) ?_
    refine x_iast B hw 21 (by decide) (fun _ _ => rfl) dX3_rise_19 hf (fun S1 H locs hw hf => ?_)
    refine lv_aload_n hx hb dX3_rise_20 rfl (lv_at hl 0 rfl) ?_
    refine x_get B hw (Tb := TX3) inX3 19 (by decide) rfl rfl 2 (by decide) u136 (fun _ h => h) rfl dX3_rise_21 ?_
    refine lv_aload_n hx hb dX3_rise_24 rfl (lv_at hl 0 rfl) ?_
    refine x_get B hw (Tb := TX3) inX3 19 (by decide) rfl rfl 4 (by decide) u141 (fun _ h => h) rfl dX3_rise_25 ?_
    refine lv_iload_n hx hb dX3_rise_28 rfl (lv_at hl 2 rfl) ?_
    refine x_iast B hw 22 (by decide) (fun _ _ => rfl) dX3_rise_29 hf (fun S2 H locs hw hf => ?_)
    refine lv_aload_n hx hb dX3_rise_30 rfl (lv_at hl 0 rfl) ?_
    refine lv_dup hx hb dX3_rise_31 rfl ?_
    refine x_get B hw (Tb := TX3) inX3 19 (by decide) rfl rfl 4 (by decide) u141 (fun _ h => h) rfl dX3_rise_32 ?_
    refine lv_iconst (v := 1) hx hb dX3_rise_35 (by decide) ?_
    refine lv_iadd hx hb dX3_rise_36 ?_
    refine x_put B hw (Tb := TX3) inX3 tyX3 tyX3_ok nmX3 19 (by decide) rfl rfl 4 (by decide) u141 (fun _ h => h) rfl (ty := .int) (by decide +kernel) rfl rfl (Nat.le_of_ble_eq_true rfl) (S1 := upI S2 19 4 ((S2.1 19 4) + 1)) rfl upI_o (fun _ _ => rfl) dX3_rise_37 hf (fun S3 H locs hw hf => ?_)
    exact x_vret B hw hf dX3_rise_40
  · have hf := x_neg hc hf
    exact x_vret B hw hf dX3_rise_9

set_option maxHeartbeats 4000000 in
theorem jSuppers_rise_ok {x1 : Int32} {x2 : Int32} {S SF : St} (hf : jSuppers_rise x1 x2 S = some SF) : XMet l D 40 (cellC T q) q T (ExC aK aV) yX3_rise cX3_rise 3 none ({ frames := 0, cells := 0, slots := 0, locals := 0 }) [.ref (q 19), .int x1, .int x2] S none SF := by
  refine x_enter (own := RX3) (by decide +kernel) rfl (Nat.le_of_ble_eq_true rfl) (fun p e s m below meth c A B ls hw hl0 => ?_)
  have hl : lv_has ls 3 [(0, .ref (q 19)), (1, .int x1), (2, .int x2)] := hl0
  exact jSuppers_rise_b0_ok B x1 x2 S hf hw hl

set_option maxHeartbeats 4000000 in
theorem jSuppers_change_b0_ok (B : XB p s m args meth c A cX3_change 4 none RX3) {SF : St}  (x1 : Int32) (x2 : Int32) (x3 : Int32) (S : St) {H : Heap} {locs : List Loc} {ls : Array Slot} (hf : jSuppers_change x1 x2 x3 S = some SF) (hw : Xw D 40 (cellC T q) q T (ExC aK aV) A s S H locs) (hl : lv_has ls 4 [(0, .ref (q 19)), (1, .int x1), (2, .int x2), (3, .int x3)]) : XG p l e ({ frames := 0, cells := 0, slots := 0, locals := 0 }) s m args below meth c D 40 (cellC T q) q T A SF none H locs 0 ls [] := by
  unfold jSuppers_change at hf
  obtain ⟨hx, hb, hr, hml, hown, hts, hlk, hA⟩ := id B
  refine lv_aload_n hx hb dX3_change_0 rfl (lv_at hl 0 rfl) ?_
  refine x_get B hw (Tb := TX3) inX3 19 (by decide) rfl rfl 0 (by decide) u133 (fun _ h => h) rfl dX3_change_1 ?_
  refine lv_iload_n hx hb dX3_change_4 rfl (lv_at hl 1 rfl) ?_
  refine lv_iconst (v := 5) hx hb dX3_change_5 (by decide) ?_
  refine lv_imul hx hb dX3_change_6 ?_
  refine lv_iload_n hx hb dX3_change_7 rfl (lv_at hl 2 rfl) ?_
  refine lv_iadd hx hb dX3_change_8 ?_
  refine lv_dup2_11 hx hb dX3_change_9 rfl rfl ?_
  refine x_iald B hw 20 (by decide) rfl dX3_change_10 hf (fun v1 hf => ?_)
  refine lv_iload_n hx hb dX3_change_11 rfl (lv_at hl 3 rfl) ?_
  refine lv_iadd hx hb dX3_change_12 ?_
  refine x_iast B hw 20 (by decide) (fun _ _ => rfl) dX3_change_13 hf (fun S2 H locs hw hf => ?_)
  exact x_vret B hw hf dX3_change_14

set_option maxHeartbeats 4000000 in
theorem jSuppers_change_ok {x1 : Int32} {x2 : Int32} {x3 : Int32} {S SF : St} (hf : jSuppers_change x1 x2 x3 S = some SF) : XMet l D 40 (cellC T q) q T (ExC aK aV) yX3_change cX3_change 4 none ({ frames := 0, cells := 0, slots := 0, locals := 0 }) [.ref (q 19), .int x1, .int x2, .int x3] S none SF := by
  refine x_enter (own := RX3) (by decide +kernel) rfl (Nat.le_of_ble_eq_true rfl) (fun p e s m below meth c A B ls hw hl0 => ?_)
  have hl : lv_has ls 4 [(0, .ref (q 19)), (1, .int x1), (2, .int x2), (3, .int x3)] := hl0
  exact jSuppers_change_b0_ok B x1 x2 x3 S hf hw hl

set_option maxHeartbeats 4000000 in
theorem jSmoke_cook_b53_ok (B : XB p s m args meth c A cX6_cook 4 (some .int) RX6) {SF : St} {r : Int32} (K53 : Int32 → Int32 → Int32 → St → Option (Int32 × St)) (hK53 : ∀ (x1 : Int32) (x2 : Int32) (x3 : Int32) (S : St) (H : Heap) (locs : List Loc) (ls : Array Slot), K53 x1 x2 x3 S = some (r, SF) → Xw D 40 (cellC T q) q T (ExC aK aV) A s S H locs → lv_has ls 4 [(0, .ref (q 0)), (1, .int x1), (2, .int x2), (3, .int x3)] → XG p l e ({ frames := 3, cells := 0, slots := 0, locals := 67 }) s m args below meth c D 40 (cellC T q) q T A SF (some (.int r)) H locs 53 ls [])  (x1 : Int32) (x2 : Int32) (x3 : Int32) (S : St) {H : Heap} {locs : List Loc} {ls : Array Slot} (hf : jSmoke_cook_b53 K53 x1 x2 x3 S = some (r, SF)) (hw : Xw D 40 (cellC T q) q T (ExC aK aV) A s S H locs) (hl : lv_has ls 4 [(0, .ref (q 0)), (1, .int x1), (2, .int x2), (3, .int x3)]) : XG p l e ({ frames := 3, cells := 0, slots := 0, locals := 67 }) s m args below meth c D 40 (cellC T q) q T A SF (some (.int r)) H locs 53 ls [] := by
  unfold jSmoke_cook_b53 at hf
  obtain ⟨hx, hb, hr, hml, hown, hts, hlk, hA⟩ := id B
  refine lv_iload_n hx hb dX6_cook_53 rfl (lv_at hl 3 rfl) ?_
  refine lv_iconst (v := 5) hx hb dX6_cook_54 (by decide) ?_
  refine lv_icmp_ge (tgt := 83) hx hb dX6_cook_55 (by decide) (fun hc => ?_) (fun hc => ?_)
  · have hf := x_pos hc hf
    refine lv_aload_n hx hb dX6_cook_83 rfl (lv_at hl 0 rfl) ?_
    refine x_get B hw (Tb := TX6) inX6 0 (by decide) rfl rfl 3 (by decide) u233 (fun _ h => h) rfl dX6_cook_84 ?_
    refine lv_iload_n hx hb dX6_cook_87 rfl (lv_at hl 1 rfl) ?_
    refine lv_iload_n hx hb dX6_cook_88 rfl (lv_at hl 2 rfl) ?_
    obtain ⟨S7, hc, hf⟩ := x_bv_some hf
    refine x_callV B ExC_ok hw 19 (by decide) rfl rfl (As := [.int x1, .int x2]) (rest := []) (st1 := []) (jSuppers_rise_ok hc) u444 u445 u446 u42 u447 hdX3_rise rfl ⟨Nat.le_of_ble_eq_true rfl, Nat.le_of_ble_eq_true rfl⟩ ⟨rfl, rfl⟩ hl.1 (Nat.le_of_ble_eq_true rfl) dX6_cook_89 (fun H locs hw => ?_) rfl rfl
    refine lv_aload_n hx hb dX6_cook_92 rfl (lv_at hl 0 rfl) ?_
    refine x_get B hw (Tb := TX6) inX6 0 (by decide) rfl rfl 2 (by decide) u232 (fun _ h => h) rfl dX6_cook_93 ?_
    refine x_get B hw (Tb := TX1) inX1 14 (by decide) rfl rfl 2 (by decide) u108 (fun _ h => h) rfl dX6_cook_96 ?_
    refine lv_iload_n hx hb dX6_cook_99 rfl (lv_at hl 2 rfl) ?_
    refine x_iald B hw 17 (by decide) rfl dX6_cook_100 hf (fun v8 hf => ?_)
    exact x_iret B hw hf dX6_cook_101
  · have hf := x_neg hc hf
    refine lv_aload_n hx hb dX6_cook_58 rfl (lv_at hl 0 rfl) ?_
    refine x_get B hw (Tb := TX6) inX6 0 (by decide) rfl rfl 3 (by decide) u233 (fun _ h => h) rfl dX6_cook_59 ?_
    refine lv_iload_n hx hb dX6_cook_62 rfl (lv_at hl 1 rfl) ?_
    refine lv_iload_n hx hb dX6_cook_63 rfl (lv_at hl 3 rfl) ?_
    refine lv_aload_n hx hb dX6_cook_64 rfl (lv_at hl 0 rfl) ?_
    refine x_get B hw (Tb := TX6) inX6 0 (by decide) rfl rfl 2 (by decide) u232 (fun _ h => h) rfl dX6_cook_65 ?_
    refine lv_iload_n hx hb dX6_cook_68 rfl (lv_at hl 2 rfl) ?_
    refine lv_iload_n hx hb dX6_cook_69 rfl (lv_at hl 3 rfl) ?_
    obtain ⟨v10, S9, hc, hf⟩ := x_bd_some hf
    refine x_callV B ExC_ok hw 14 (by decide) rfl rfl (As := [.int x2, .int x3]) (rest := [.int x3, .int x1, .ref (q 19)]) (st1 := [.int v10, .int x3, .int x1, .ref (q 19)]) (jMenu_need_ok hc) u419 u420 u421 u41 u422 hdX1_need rfl ⟨Nat.le_of_ble_eq_true rfl, Nat.le_of_ble_eq_true rfl⟩ ⟨rfl, rfl⟩ hl.1 (Nat.le_of_ble_eq_true rfl) dX6_cook_70 (fun H locs hw => ?_) rfl rfl
    refine lv_ineg hx hb dX6_cook_73 ?_
    obtain ⟨S11, hc, hf⟩ := x_bv_some hf
    refine x_callV B ExC_ok hw 19 (by decide) rfl rfl (As := [.int x1, .int x3, .int (-v10)]) (rest := []) (st1 := []) (jSuppers_change_ok hc) u440 u441 u442 u42 u443 hdX3_change rfl ⟨Nat.le_of_ble_eq_true rfl, Nat.le_of_ble_eq_true rfl⟩ ⟨rfl, rfl⟩ hl.1 (Nat.le_of_ble_eq_true rfl) dX6_cook_74 (fun H locs hw => ?_) rfl rfl
    refine lv_iinc (v := x3 + 1) (lv' := [(3, .int (x3 + 1)), (0, .ref (q 0)), (1, .int x1), (2, .int x2)]) hx hb dX6_cook_77 hl (k := 3) rfl xi_1 (by decide) rfl (fun ls hl => ?_)
    refine lv_goto (tgt := 53) hx hb dX6_cook_80 (by decide) ?_
    exact hK53 x1 x2 (x3 + 1) S11 _ _ _ hf hw (lv_sub hl [1, 2, 3, 0] rfl)

theorem jSmoke_cook_h53_ok (B : XB p s m args meth c A cX6_cook 4 (some .int) RX6) {SF : St} {r : Int32} : ∀ (n : Nat) (x1 : Int32) (x2 : Int32) (x3 : Int32) (S : St) (H : Heap) (locs : List Loc) (ls : Array Slot), jSmoke_cook_h53 n x1 x2 x3 S = some (r, SF) → Xw D 40 (cellC T q) q T (ExC aK aV) A s S H locs → lv_has ls 4 [(0, .ref (q 0)), (1, .int x1), (2, .int x2), (3, .int x3)] → XG p l e ({ frames := 3, cells := 0, slots := 0, locals := 67 }) s m args below meth c D 40 (cellC T q) q T A SF (some (.int r)) H locs 53 ls [] := by
  intro n
  induction n with
  | zero =>
    intro x1 x2 x3 S H locs ls hf hw hl
    rw [jSmoke_cook_h53] at hf
    cases hf
  | succ n ih =>
    intro x1 x2 x3 S H locs ls hf hw hl
    rw [jSmoke_cook_h53] at hf
    exact jSmoke_cook_b53_ok B (jSmoke_cook_h53 n) ih x1 x2 x3 S hf hw hl

set_option maxHeartbeats 4000000 in
theorem jSmoke_cook_b0_ok (B : XB p s m args meth c A cX6_cook 4 (some .int) RX6) {SF : St} {r : Int32}  (x1 : Int32) (x2 : Int32) (S : St) {H : Heap} {locs : List Loc} {ls : Array Slot} (hf : jSmoke_cook x1 x2 S = some (r, SF)) (hw : Xw D 40 (cellC T q) q T (ExC aK aV) A s S H locs) (hl : lv_has ls 4 [(0, .ref (q 0)), (1, .int x1), (2, .int x2)]) : XG p l e ({ frames := 3, cells := 0, slots := 0, locals := 67 }) s m args below meth c D 40 (cellC T q) q T A SF (some (.int r)) H locs 0 ls [] := by
  unfold jSmoke_cook at hf
  obtain ⟨hx, hb, hr, hml, hown, hts, hlk, hA⟩ := id B
  refine lv_aload_n hx hb dX6_cook_0 rfl (lv_at hl 0 rfl) ?_
  refine x_get B hw (Tb := TX6) inX6 0 (by decide) rfl rfl 3 (by decide) u233 (fun _ h => h) rfl dX6_cook_1 ?_
  refine lv_iload_n hx hb dX6_cook_4 rfl (lv_at hl 1 rfl) ?_
  obtain ⟨v2, S1, hc, hf⟩ := x_bd_some hf
  refine x_callV B ExC_ok hw 19 (by decide) rfl rfl (As := [.int x1]) (rest := []) (st1 := [.int v2]) (jSuppers_hasHouse_ok hc) u398 u399 u400 u42 u401 hdX3_hasHouse rfl ⟨Nat.le_of_ble_eq_true rfl, Nat.le_of_ble_eq_true rfl⟩ ⟨rfl, rfl⟩ hl.1 (Nat.le_of_ble_eq_true rfl) dX6_cook_5 (fun H locs hw => ?_) rfl rfl
  refine lv_if_eq (tgt := 22) hx hb dX6_cook_8 (by decide) (fun hc => ?_) (fun hc => ?_)
  · have hf := x_pos hc hf
    refine lv_iconst (v := (-1)) hx hb dX6_cook_22 (by decide) ?_
    exact x_iret B hw hf dX6_cook_23
  · have hf := x_neg hc hf
    refine lv_aload_n hx hb dX6_cook_11 rfl (lv_at hl 0 rfl) ?_
    refine x_get B hw (Tb := TX6) inX6 0 (by decide) rfl rfl 2 (by decide) u232 (fun _ h => h) rfl dX6_cook_12 ?_
    refine lv_iload_n hx hb dX6_cook_15 rfl (lv_at hl 2 rfl) ?_
    obtain ⟨v4, S3, hc, hf⟩ := x_bd_some hf
    refine x_callV B ExC_ok hw 14 (by decide) rfl rfl (As := [.int x2]) (rest := []) (st1 := [.int v4]) (jMenu_lists_ok hc) u415 u416 u417 u41 u418 hdX1_lists rfl ⟨Nat.le_of_ble_eq_true rfl, Nat.le_of_ble_eq_true rfl⟩ ⟨rfl, rfl⟩ hl.1 (Nat.le_of_ble_eq_true rfl) dX6_cook_16 (fun H locs hw => ?_) rfl rfl
    refine lv_if_ne (tgt := 24) hx hb dX6_cook_19 (by decide) (fun hc => ?_) (fun hc => ?_)
    · have hf := x_neg hc hf
      refine lv_aload_n hx hb dX6_cook_24 rfl (lv_at hl 0 rfl) ?_
      refine lv_iload_n hx hb dX6_cook_25 rfl (lv_at hl 1 rfl) ?_
      refine lv_iload_n hx hb dX6_cook_26 rfl (lv_at hl 2 rfl) ?_
      obtain ⟨v6, S5, hc, hf⟩ := x_bd_some hf
      refine x_callV B ExC_ok hw 0 (by decide) rfl rfl (As := [.int x1, .int x2]) (rest := []) (st1 := [.int v6]) (jSmoke_couldCook_ok hc) u427 u429 u6 u38 u430 hdX6_couldCook rfl ⟨Nat.le_of_ble_eq_true rfl, Nat.le_of_ble_eq_true rfl⟩ ⟨rfl, rfl⟩ hl.1 (Nat.le_of_ble_eq_true rfl) dX6_cook_27 (fun H locs hw => ?_) rfl rfl
      refine lv_if_ne (tgt := 36) hx hb dX6_cook_30 (by decide) (fun hc => ?_) (fun hc => ?_)
      · have hf := x_neg hc hf
        refine lv_aload_n hx hb dX6_cook_36 rfl (lv_at hl 0 rfl) ?_
        refine x_get B hw (Tb := TX6) inX6 0 (by decide) rfl rfl 3 (by decide) u233 (fun _ h => h) rfl dX6_cook_37 ?_
        refine x_get B hw (Tb := TX3) inX3 19 (by decide) rfl rfl 4 (by decide) u143 (fun _ h => h) rfl dX6_cook_40 ?_
        refine lv_bipush (v := 20) hx hb dX6_cook_43 (by decide) ?_
        refine lv_icmp_lt (tgt := 51) hx hb dX6_cook_45 (by decide) (fun hc => ?_) (fun hc => ?_)
        · have hf := x_pos hc hf
          refine lv_iconst (v := 0) hx hb dX6_cook_51 (by decide) ?_
          refine lv_istore_n (lv' := [(3, .int 0), (0, .ref (q 0)), (1, .int x1), (2, .int x2)]) hx hb dX6_cook_52 rfl hl (by decide) rfl (fun ls hl => ?_)
          exact jSmoke_cook_h53_ok B FU x1 x2 0 S5 _ _ _ hf hw (lv_sub hl [1, 2, 3, 0] rfl)
        · have hf := x_neg hc hf
          refine lv_bipush (v := (-3)) hx hb dX6_cook_48 (by decide) ?_
          exact x_iret B hw hf dX6_cook_50
      · have hf := x_pos hc hf
        refine lv_bipush (v := (-2)) hx hb dX6_cook_33 (by decide) ?_
        exact x_iret B hw hf dX6_cook_35
    · have hf := x_pos hc hf
      refine lv_iconst (v := (-1)) hx hb dX6_cook_22 (by decide) ?_
      exact x_iret B hw hf dX6_cook_23

set_option maxHeartbeats 4000000 in
theorem jSmoke_cook_ok {x1 : Int32} {x2 : Int32} {S SF : St} {r : Int32} (hf : jSmoke_cook x1 x2 S = some (r, SF)) : XMet l D 40 (cellC T q) q T (ExC aK aV) yX6_cook cX6_cook 4 (some .int) ({ frames := 3, cells := 0, slots := 0, locals := 67 }) [.ref (q 0), .int x1, .int x2] S (some (.int r)) SF := by
  refine x_enter (own := RX6) (by decide +kernel) rfl (Nat.le_of_ble_eq_true rfl) (fun p e s m below meth c A B ls hw hl0 => ?_)
  have hl : lv_has ls 4 [(0, .ref (q 0)), (1, .int x1), (2, .int x2)] := hl0
  exact jSmoke_cook_b0_ok B x1 x2 S hf hw hl

set_option maxHeartbeats 4000000 in
theorem jSmoke_undo_b60_ok (B : XB p s m args meth c A cX6_undo 5 (some .int) RX6) {SF : St} {r : Int32} (K60 : Int32 → Int32 → Int32 → St → Option (Int32 × St)) (hK60 : ∀ (x1 : Int32) (x2 : Int32) (x3 : Int32) (S : St) (H : Heap) (locs : List Loc) (ls : Array Slot), K60 x1 x2 x3 S = some (r, SF) → Xw D 40 (cellC T q) q T (ExC aK aV) A s S H locs → lv_has ls 5 [(0, .ref (q 0)), (1, .int x1), (2, .int x2), (3, .int x3)] → XG p l e ({ frames := 1, cells := 0, slots := 0, locals := 23 }) s m args below meth c D 40 (cellC T q) q T A SF (some (.int r)) H locs 60 ls [])  (x1 : Int32) (x2 : Int32) (x3 : Int32) (S : St) {H : Heap} {locs : List Loc} {ls : Array Slot} (hf : jSmoke_undo_b60 K60 x1 x2 x3 S = some (r, SF)) (hw : Xw D 40 (cellC T q) q T (ExC aK aV) A s S H locs) (hl : lv_has ls 5 [(0, .ref (q 0)), (1, .int x1), (2, .int x2), (3, .int x3)]) : XG p l e ({ frames := 1, cells := 0, slots := 0, locals := 23 }) s m args below meth c D 40 (cellC T q) q T A SF (some (.int r)) H locs 60 ls [] := by
  unfold jSmoke_undo_b60 at hf
  obtain ⟨hx, hb, hr, hml, hown, hts, hlk, hA⟩ := id B
  refine lv_iload_n hx hb dX6_undo_60 rfl (lv_at hl 3 rfl) ?_
  refine lv_iconst (v := 5) hx hb dX6_undo_61 (by decide) ?_
  refine lv_icmp_ge (tgt := 108) hx hb dX6_undo_62 (by decide) (fun hc => ?_) (fun hc => ?_)
  · have hf := x_pos hc hf
    refine lv_aload_n hx hb dX6_undo_108 rfl (lv_at hl 0 rfl) ?_
    refine x_get B hw (Tb := TX6) inX6 0 (by decide) rfl rfl 3 (by decide) u233 (fun _ h => h) rfl dX6_undo_109 ?_
    refine x_get B hw (Tb := TX3) inX3 19 (by decide) rfl rfl 4 (by decide) u143 (fun _ h => h) rfl dX6_undo_112 ?_
    exact x_iret B hw hf dX6_undo_115
  · have hf := x_neg hc hf
    refine lv_bipush (v := 9) hx hb dX6_undo_65 (by decide) ?_
    refine lv_aload_n hx hb dX6_undo_67 rfl (lv_at hl 0 rfl) ?_
    refine x_get B hw (Tb := TX6) inX6 0 (by decide) rfl rfl 3 (by decide) u233 (fun _ h => h) rfl dX6_undo_68 ?_
    refine lv_iload_n hx hb dX6_undo_71 rfl (lv_at hl 1 rfl) ?_
    refine lv_iload_n hx hb dX6_undo_72 rfl (lv_at hl 3 rfl) ?_
    obtain ⟨v5, S4, hc, hf⟩ := x_bd_some hf
    refine x_callV B ExC_ok hw 19 (by decide) rfl rfl (As := [.int x1, .int x3]) (rest := [.int 9]) (st1 := [.int v5, .int 9]) (jSuppers_stock_ok hc) u402 u403 u404 u42 u405 hdX3_stock rfl ⟨Nat.le_of_ble_eq_true rfl, Nat.le_of_ble_eq_true rfl⟩ ⟨rfl, rfl⟩ hl.1 (Nat.le_of_ble_eq_true rfl) dX6_undo_73 (fun H locs hw => ?_) rfl rfl
    refine lv_isub hx hb dX6_undo_76 ?_
    refine x_leti hf (fun v6 hf => ?_)
    refine lv_istore (lv' := [(4, .int v6), (0, .ref (q 0)), (1, .int x1), (2, .int x2), (3, .int x3)]) hx hb dX6_undo_77 hl (by decide) rfl (fun ls hl => ?_)
    refine lv_aload_n hx hb dX6_undo_79 rfl (lv_at hl 1 rfl) ?_
    refine x_get B hw (Tb := TX6) inX6 0 (by decide) rfl rfl 3 (by decide) u233 (fun _ h => h) rfl dX6_undo_80 ?_
    refine lv_iload_n hx hb dX6_undo_83 rfl (lv_at hl 2 rfl) ?_
    refine lv_iload_n hx hb dX6_undo_84 rfl (lv_at hl 4 rfl) ?_
    refine lv_iload hx hb dX6_undo_85 (lv_at hl 0 rfl) ?_
    refine lv_aload_n hx hb dX6_undo_87 rfl (lv_at hl 1 rfl) ?_
    refine x_get B hw (Tb := TX6) inX6 0 (by decide) rfl rfl 2 (by decide) u232 (fun _ h => h) rfl dX6_undo_88 ?_
    refine lv_iload_n hx hb dX6_undo_91 rfl (lv_at hl 3 rfl) ?_
    refine lv_iload_n hx hb dX6_undo_92 rfl (lv_at hl 4 rfl) ?_
    obtain ⟨v8, S7, hc, hf⟩ := x_bd_some hf
    refine x_callV B ExC_ok hw 14 (by decide) rfl rfl (As := [.int x2, .int x3]) (rest := [.int v6, .int x3, .int x1, .ref (q 19)]) (st1 := [.int v8, .int v6, .int x3, .int x1, .ref (q 19)]) (jMenu_need_ok hc) u419 u420 u421 u41 u422 hdX1_need rfl ⟨Nat.le_of_ble_eq_true rfl, Nat.le_of_ble_eq_true rfl⟩ ⟨rfl, rfl⟩ hl.1 (Nat.le_of_ble_eq_true rfl) dX6_undo_93 (fun H locs hw => ?_) rfl rfl
    refine va_mmin hx hb (hml.trans hl.1.symm) hown (hts _ u452) (hts _ u453) (hts _ u50) (hts _ u454) (Nat.le_of_ble_eq_true rfl) (Nat.le_of_ble_eq_true rfl) (Nat.zero_le _) (Nat.zero_le _) dX6_undo_96 ?_
    obtain ⟨S9, hc, hf⟩ := x_bv_some hf
    refine x_callV B ExC_ok hw 19 (by decide) rfl rfl (As := [.int x1, .int x3, .int (if v8 < v6 then v8 else v6)]) (rest := []) (st1 := []) (jSuppers_change_ok hc) u440 u441 u442 u42 u443 hdX3_change rfl ⟨Nat.le_of_ble_eq_true rfl, Nat.le_of_ble_eq_true rfl⟩ ⟨rfl, rfl⟩ hl.1 (Nat.le_of_ble_eq_true rfl) dX6_undo_99 (fun H locs hw => ?_) rfl rfl
    refine lv_iinc (v := x3 + 1) (lv' := [(3, .int (x3 + 1)), (4, .int v6), (0, .ref (q 0)), (1, .int x1), (2, .int x2)]) hx hb dX6_undo_102 hl (k := 4) rfl xi_1 (by decide) rfl (fun ls hl => ?_)
    refine lv_goto (tgt := 60) hx hb dX6_undo_105 (by decide) ?_
    exact hK60 x1 x2 (x3 + 1) S9 _ _ _ hf hw (lv_sub hl [2, 3, 4, 0] rfl)

theorem jSmoke_undo_h60_ok (B : XB p s m args meth c A cX6_undo 5 (some .int) RX6) {SF : St} {r : Int32} : ∀ (n : Nat) (x1 : Int32) (x2 : Int32) (x3 : Int32) (S : St) (H : Heap) (locs : List Loc) (ls : Array Slot), jSmoke_undo_h60 n x1 x2 x3 S = some (r, SF) → Xw D 40 (cellC T q) q T (ExC aK aV) A s S H locs → lv_has ls 5 [(0, .ref (q 0)), (1, .int x1), (2, .int x2), (3, .int x3)] → XG p l e ({ frames := 1, cells := 0, slots := 0, locals := 23 }) s m args below meth c D 40 (cellC T q) q T A SF (some (.int r)) H locs 60 ls [] := by
  intro n
  induction n with
  | zero =>
    intro x1 x2 x3 S H locs ls hf hw hl
    rw [jSmoke_undo_h60] at hf
    cases hf
  | succ n ih =>
    intro x1 x2 x3 S H locs ls hf hw hl
    rw [jSmoke_undo_h60] at hf
    exact jSmoke_undo_b60_ok B (jSmoke_undo_h60 n) ih x1 x2 x3 S hf hw hl

set_option maxHeartbeats 4000000 in
theorem jSmoke_undo_b0_ok (B : XB p s m args meth c A cX6_undo 5 (some .int) RX6) {SF : St} {r : Int32}  (S : St) {H : Heap} {locs : List Loc} {ls : Array Slot} (hf : jSmoke_undo S = some (r, SF)) (hw : Xw D 40 (cellC T q) q T (ExC aK aV) A s S H locs) (hl : lv_has ls 5 [(0, .ref (q 0))]) : XG p l e ({ frames := 1, cells := 0, slots := 0, locals := 23 }) s m args below meth c D 40 (cellC T q) q T A SF (some (.int r)) H locs 0 ls [] := by
  unfold jSmoke_undo at hf
  obtain ⟨hx, hb, hr, hml, hown, hts, hlk, hA⟩ := id B
  refine lv_aload_n hx hb dX6_undo_0 rfl (lv_at hl 0 rfl) ?_
  refine x_get B hw (Tb := TX6) inX6 0 (by decide) rfl rfl 3 (by decide) u233 (fun _ h => h) rfl dX6_undo_1 ?_
  refine x_get B hw (Tb := TX3) inX3 19 (by decide) rfl rfl 4 (by decide) u143 (fun _ h => h) rfl dX6_undo_4 ?_
  refine lv_if_gt (tgt := 13) hx hb dX6_undo_7 (by decide) (fun hc => ?_) (fun hc => ?_)
  · have hf := x_pos hc hf
    refine lv_aload_n hx hb dX6_undo_13 rfl (lv_at hl 0 rfl) ?_
    refine x_get B hw (Tb := TX6) inX6 0 (by decide) rfl rfl 3 (by decide) u233 (fun _ h => h) rfl dX6_undo_14 ?_
    refine lv_dup hx hb dX6_undo_17 rfl ?_
    refine x_get B hw (Tb := TX3) inX3 19 (by decide) rfl rfl 4 (by decide) u143 (fun _ h => h) rfl dX6_undo_18 ?_
    refine lv_iconst (v := 1) hx hb dX6_undo_21 (by decide) ?_
    refine lv_isub hx hb dX6_undo_22 ?_
    refine x_put B hw (Tb := TX3) inX3 tyX3 tyX3_ok nmX3 19 (by decide) rfl rfl 4 (by decide) u143 (fun _ h => h) rfl (ty := .int) (by decide +kernel) rfl rfl (Nat.le_of_ble_eq_true rfl) (S1 := upI S 19 4 ((S.1 19 4) - 1)) rfl upI_o (fun _ _ => rfl) dX6_undo_23 hf (fun S1 H locs hw hf => ?_)
    refine lv_aload_n hx hb dX6_undo_26 rfl (lv_at hl 0 rfl) ?_
    refine x_get B hw (Tb := TX6) inX6 0 (by decide) rfl rfl 3 (by decide) u233 (fun _ h => h) rfl dX6_undo_27 ?_
    refine x_get B hw (Tb := TX3) inX3 19 (by decide) rfl rfl 1 (by decide) u135 (fun _ h => h) rfl dX6_undo_30 ?_
    refine lv_aload_n hx hb dX6_undo_33 rfl (lv_at hl 0 rfl) ?_
    refine x_get B hw (Tb := TX6) inX6 0 (by decide) rfl rfl 3 (by decide) u233 (fun _ h => h) rfl dX6_undo_34 ?_
    refine x_get B hw (Tb := TX3) inX3 19 (by decide) rfl rfl 4 (by decide) u143 (fun _ h => h) rfl dX6_undo_37 ?_
    refine x_iald B hw 21 (by decide) rfl dX6_undo_40 hf (fun v2 hf => ?_)
    refine lv_istore_n (lv' := [(1, .int v2), (0, .ref (q 0))]) hx hb dX6_undo_41 rfl hl (by decide) rfl (fun ls hl => ?_)
    refine lv_aload_n hx hb dX6_undo_42 rfl (lv_at hl 1 rfl) ?_
    refine x_get B hw (Tb := TX6) inX6 0 (by decide) rfl rfl 3 (by decide) u233 (fun _ h => h) rfl dX6_undo_43 ?_
    refine x_get B hw (Tb := TX3) inX3 19 (by decide) rfl rfl 2 (by decide) u137 (fun _ h => h) rfl dX6_undo_46 ?_
    refine lv_aload_n hx hb dX6_undo_49 rfl (lv_at hl 1 rfl) ?_
    refine x_get B hw (Tb := TX6) inX6 0 (by decide) rfl rfl 3 (by decide) u233 (fun _ h => h) rfl dX6_undo_50 ?_
    refine x_get B hw (Tb := TX3) inX3 19 (by decide) rfl rfl 4 (by decide) u143 (fun _ h => h) rfl dX6_undo_53 ?_
    refine x_iald B hw 22 (by decide) rfl dX6_undo_56 hf (fun v3 hf => ?_)
    refine lv_istore_n (lv' := [(2, .int v3), (1, .int v2), (0, .ref (q 0))]) hx hb dX6_undo_57 rfl hl (by decide) rfl (fun ls hl => ?_)
    refine lv_iconst (v := 0) hx hb dX6_undo_58 (by decide) ?_
    refine lv_istore_n (lv' := [(3, .int 0), (2, .int v3), (1, .int v2), (0, .ref (q 0))]) hx hb dX6_undo_59 rfl hl (by decide) rfl (fun ls hl => ?_)
    exact jSmoke_undo_h60_ok B FU v2 v3 0 S1 _ _ _ hf hw (lv_sub hl [3, 2, 1, 0] rfl)
  · have hf := x_neg hc hf
    refine lv_bipush (v := (-2)) hx hb dX6_undo_10 (by decide) ?_
    exact x_iret B hw hf dX6_undo_12

set_option maxHeartbeats 4000000 in
theorem jSmoke_undo_ok {S SF : St} {r : Int32} (hf : jSmoke_undo S = some (r, SF)) : XMet l D 40 (cellC T q) q T (ExC aK aV) yX6_undo cX6_undo 5 (some .int) ({ frames := 1, cells := 0, slots := 0, locals := 23 }) [.ref (q 0)] S (some (.int r)) SF := by
  refine x_enter (own := RX6) (by decide +kernel) rfl (Nat.le_of_ble_eq_true rfl) (fun p e s m below meth c A B ls hw hl0 => ?_)
  have hl : lv_has ls 5 [(0, .ref (q 0))] := hl0
  exact jSmoke_undo_b0_ok B S hf hw hl

set_option maxHeartbeats 4000000 in
theorem jSmoke_gives_b0_ok (B : XB p s m args meth c A cX6_gives 5 (some .int) RX6) {SF : St} {r : Int32}  (x1 : Int32) (x2 : Int32) (x3 : Int32) (x4 : Int32) (S : St) {H : Heap} {locs : List Loc} {ls : Array Slot} (hf : jSmoke_gives x1 x2 x3 x4 S = some (r, SF)) (hw : Xw D 40 (cellC T q) q T (ExC aK aV) A s S H locs) (hl : lv_has ls 5 [(0, .ref (q 0)), (1, .int x1), (2, .int x2), (3, .int x3), (4, .int x4)]) : XG p l e ({ frames := 1, cells := 0, slots := 0, locals := 23 }) s m args below meth c D 40 (cellC T q) q T A SF (some (.int r)) H locs 0 ls [] := by
  unfold jSmoke_gives at hf
  obtain ⟨hx, hb, hr, hml, hown, hts, hlk, hA⟩ := id B
  refine lv_aload_n hx hb dX6_gives_0 rfl (lv_at hl 0 rfl) ?_
  refine x_get B hw (Tb := TX6) inX6 0 (by decide) rfl rfl 3 (by decide) u233 (fun _ h => h) rfl dX6_gives_1 ?_
  refine lv_iload_n hx hb dX6_gives_4 rfl (lv_at hl 1 rfl) ?_
  obtain ⟨v2, S1, hc, hf⟩ := x_bd_some hf
  refine x_callV B ExC_ok hw 19 (by decide) rfl rfl (As := [.int x1]) (rest := []) (st1 := [.int v2]) (jSuppers_hasHouse_ok hc) u398 u399 u400 u42 u401 hdX3_hasHouse rfl ⟨Nat.le_of_ble_eq_true rfl, Nat.le_of_ble_eq_true rfl⟩ ⟨rfl, rfl⟩ hl.1 (Nat.le_of_ble_eq_true rfl) dX6_gives_5 (fun H locs hw => ?_) rfl rfl
  refine lv_if_eq (tgt := 27) hx hb dX6_gives_8 (by decide) (fun hc => ?_) (fun hc => ?_)
  · have hf := x_pos hc hf
    refine lv_iconst (v := (-1)) hx hb dX6_gives_27 (by decide) ?_
    exact x_iret B hw hf dX6_gives_28
  · have hf := x_neg hc hf
    refine lv_aload_n hx hb dX6_gives_11 rfl (lv_at hl 0 rfl) ?_
    refine x_get B hw (Tb := TX6) inX6 0 (by decide) rfl rfl 3 (by decide) u233 (fun _ h => h) rfl dX6_gives_12 ?_
    refine lv_iload_n hx hb dX6_gives_15 rfl (lv_at hl 2 rfl) ?_
    obtain ⟨v4, S3, hc, hf⟩ := x_bd_some hf
    refine x_callV B ExC_ok hw 19 (by decide) rfl rfl (As := [.int x2]) (rest := []) (st1 := [.int v4]) (jSuppers_hasHouse_ok hc) u398 u399 u400 u42 u401 hdX3_hasHouse rfl ⟨Nat.le_of_ble_eq_true rfl, Nat.le_of_ble_eq_true rfl⟩ ⟨rfl, rfl⟩ hl.1 (Nat.le_of_ble_eq_true rfl) dX6_gives_16 (fun H locs hw => ?_) rfl rfl
    refine lv_if_eq (tgt := 27) hx hb dX6_gives_19 (by decide) (fun hc => ?_) (fun hc => ?_)
    · have hf := x_pos hc hf
      refine lv_iconst (v := (-1)) hx hb dX6_gives_27 (by decide) ?_
      exact x_iret B hw hf dX6_gives_28
    · have hf := x_neg hc hf
      refine lv_iload_n hx hb dX6_gives_22 rfl (lv_at hl 1 rfl) ?_
      refine lv_iload_n hx hb dX6_gives_23 rfl (lv_at hl 2 rfl) ?_
      refine lv_icmp_ne (tgt := 29) hx hb dX6_gives_24 (by decide) (fun hc => ?_) (fun hc => ?_)
      · have hf := x_neg hc hf
        refine lv_iload_n hx hb dX6_gives_29 rfl (lv_at hl 3 rfl) ?_
        refine lv_if_lt (tgt := 51) hx hb dX6_gives_30 (by decide) (fun hc => ?_) (fun hc => ?_)
        · have hf := x_pos hc hf
          refine lv_iconst (v := (-1)) hx hb dX6_gives_51 (by decide) ?_
          exact x_iret B hw hf dX6_gives_52
        · have hf := x_neg hc hf
          refine lv_iload_n hx hb dX6_gives_33 rfl (lv_at hl 3 rfl) ?_
          refine lv_iconst (v := 5) hx hb dX6_gives_34 (by decide) ?_
          refine lv_icmp_ge (tgt := 51) hx hb dX6_gives_35 (by decide) (fun hc => ?_) (fun hc => ?_)
          · have hf := x_pos hc hf
            refine lv_iconst (v := (-1)) hx hb dX6_gives_51 (by decide) ?_
            exact x_iret B hw hf dX6_gives_52
          · have hf := x_neg hc hf
            refine lv_iload hx hb dX6_gives_38 (lv_at hl 4 rfl) ?_
            refine lv_iconst (v := 1) hx hb dX6_gives_40 (by decide) ?_
            refine lv_icmp_lt (tgt := 51) hx hb dX6_gives_41 (by decide) (fun hc => ?_) (fun hc => ?_)
            · have hf := x_pos hc hf
              refine lv_iconst (v := (-1)) hx hb dX6_gives_51 (by decide) ?_
              exact x_iret B hw hf dX6_gives_52
            · have hf := x_neg hc hf
              refine lv_iload hx hb dX6_gives_44 (lv_at hl 4 rfl) ?_
              refine lv_bipush (v := 9) hx hb dX6_gives_46 (by decide) ?_
              refine lv_icmp_le (tgt := 53) hx hb dX6_gives_48 (by decide) (fun hc => ?_) (fun hc => ?_)
              · have hf := x_pos hc hf
                refine lv_aload_n hx hb dX6_gives_53 rfl (lv_at hl 0 rfl) ?_
                refine x_get B hw (Tb := TX6) inX6 0 (by decide) rfl rfl 3 (by decide) u233 (fun _ h => h) rfl dX6_gives_54 ?_
                refine lv_iload_n hx hb dX6_gives_57 rfl (lv_at hl 1 rfl) ?_
                refine lv_iload_n hx hb dX6_gives_58 rfl (lv_at hl 3 rfl) ?_
                obtain ⟨v6, S5, hc, hf⟩ := x_bd_some hf
                refine x_callV B ExC_ok hw 19 (by decide) rfl rfl (As := [.int x1, .int x3]) (rest := []) (st1 := [.int v6]) (jSuppers_stock_ok hc) u402 u403 u404 u42 u405 hdX3_stock rfl ⟨Nat.le_of_ble_eq_true rfl, Nat.le_of_ble_eq_true rfl⟩ ⟨rfl, rfl⟩ hl.1 (Nat.le_of_ble_eq_true rfl) dX6_gives_59 (fun H locs hw => ?_) rfl rfl
                refine lv_iload hx hb dX6_gives_62 (lv_at hl 4 rfl) ?_
                refine lv_icmp_ge (tgt := 70) hx hb dX6_gives_64 (by decide) (fun hc => ?_) (fun hc => ?_)
                · have hf := x_pos hc hf
                  refine lv_aload_n hx hb dX6_gives_70 rfl (lv_at hl 0 rfl) ?_
                  refine x_get B hw (Tb := TX6) inX6 0 (by decide) rfl rfl 3 (by decide) u233 (fun _ h => h) rfl dX6_gives_71 ?_
                  refine lv_iload_n hx hb dX6_gives_74 rfl (lv_at hl 2 rfl) ?_
                  refine lv_iload_n hx hb dX6_gives_75 rfl (lv_at hl 3 rfl) ?_
                  obtain ⟨v8, S7, hc, hf⟩ := x_bd_some hf
                  refine x_callV B ExC_ok hw 19 (by decide) rfl rfl (As := [.int x2, .int x3]) (rest := []) (st1 := [.int v8]) (jSuppers_stock_ok hc) u402 u403 u404 u42 u405 hdX3_stock rfl ⟨Nat.le_of_ble_eq_true rfl, Nat.le_of_ble_eq_true rfl⟩ ⟨rfl, rfl⟩ hl.1 (Nat.le_of_ble_eq_true rfl) dX6_gives_76 (fun H locs hw => ?_) rfl rfl
                  refine lv_iload hx hb dX6_gives_79 (lv_at hl 4 rfl) ?_
                  refine lv_iadd hx hb dX6_gives_81 ?_
                  refine lv_bipush (v := 9) hx hb dX6_gives_82 (by decide) ?_
                  refine lv_icmp_le (tgt := 90) hx hb dX6_gives_84 (by decide) (fun hc => ?_) (fun hc => ?_)
                  · have hf := x_pos hc hf
                    refine lv_aload_n hx hb dX6_gives_90 rfl (lv_at hl 0 rfl) ?_
                    refine x_get B hw (Tb := TX6) inX6 0 (by decide) rfl rfl 3 (by decide) u233 (fun _ h => h) rfl dX6_gives_91 ?_
                    refine lv_iload_n hx hb dX6_gives_94 rfl (lv_at hl 1 rfl) ?_
                    refine lv_iload_n hx hb dX6_gives_95 rfl (lv_at hl 3 rfl) ?_
                    refine lv_iload hx hb dX6_gives_96 (lv_at hl 4 rfl) ?_
                    refine lv_ineg hx hb dX6_gives_98 ?_
                    obtain ⟨S9, hc, hf⟩ := x_bv_some hf
                    refine x_callV B ExC_ok hw 19 (by decide) rfl rfl (As := [.int x1, .int x3, .int (-x4)]) (rest := []) (st1 := []) (jSuppers_change_ok hc) u440 u441 u442 u42 u443 hdX3_change rfl ⟨Nat.le_of_ble_eq_true rfl, Nat.le_of_ble_eq_true rfl⟩ ⟨rfl, rfl⟩ hl.1 (Nat.le_of_ble_eq_true rfl) dX6_gives_99 (fun H locs hw => ?_) rfl rfl
                    refine lv_aload_n hx hb dX6_gives_102 rfl (lv_at hl 0 rfl) ?_
                    refine x_get B hw (Tb := TX6) inX6 0 (by decide) rfl rfl 3 (by decide) u233 (fun _ h => h) rfl dX6_gives_103 ?_
                    refine lv_iload_n hx hb dX6_gives_106 rfl (lv_at hl 2 rfl) ?_
                    refine lv_iload_n hx hb dX6_gives_107 rfl (lv_at hl 3 rfl) ?_
                    refine lv_iload hx hb dX6_gives_108 (lv_at hl 4 rfl) ?_
                    obtain ⟨S10, hc, hf⟩ := x_bv_some hf
                    refine x_callV B ExC_ok hw 19 (by decide) rfl rfl (As := [.int x2, .int x3, .int x4]) (rest := []) (st1 := []) (jSuppers_change_ok hc) u440 u441 u442 u42 u443 hdX3_change rfl ⟨Nat.le_of_ble_eq_true rfl, Nat.le_of_ble_eq_true rfl⟩ ⟨rfl, rfl⟩ hl.1 (Nat.le_of_ble_eq_true rfl) dX6_gives_110 (fun H locs hw => ?_) rfl rfl
                    refine lv_aload_n hx hb dX6_gives_113 rfl (lv_at hl 0 rfl) ?_
                    refine x_get B hw (Tb := TX6) inX6 0 (by decide) rfl rfl 3 (by decide) u233 (fun _ h => h) rfl dX6_gives_114 ?_
                    refine lv_iload_n hx hb dX6_gives_117 rfl (lv_at hl 2 rfl) ?_
                    refine lv_iload_n hx hb dX6_gives_118 rfl (lv_at hl 3 rfl) ?_
                    obtain ⟨v12, S11, hc, hf⟩ := x_bd_some hf
                    refine x_callV B ExC_ok hw 19 (by decide) rfl rfl (As := [.int x2, .int x3]) (rest := []) (st1 := [.int v12]) (jSuppers_stock_ok hc) u402 u403 u404 u42 u405 hdX3_stock rfl ⟨Nat.le_of_ble_eq_true rfl, Nat.le_of_ble_eq_true rfl⟩ ⟨rfl, rfl⟩ hl.1 (Nat.le_of_ble_eq_true rfl) dX6_gives_119 (fun H locs hw => ?_) rfl rfl
                    exact x_iret B hw hf dX6_gives_122
                  · have hf := x_neg hc hf
                    refine lv_bipush (v := (-3)) hx hb dX6_gives_87 (by decide) ?_
                    exact x_iret B hw hf dX6_gives_89
                · have hf := x_neg hc hf
                  refine lv_bipush (v := (-2)) hx hb dX6_gives_67 (by decide) ?_
                  exact x_iret B hw hf dX6_gives_69
              · have hf := x_neg hc hf
                refine lv_iconst (v := (-1)) hx hb dX6_gives_51 (by decide) ?_
                exact x_iret B hw hf dX6_gives_52
      · have hf := x_pos hc hf
        refine lv_iconst (v := (-1)) hx hb dX6_gives_27 (by decide) ?_
        exact x_iret B hw hf dX6_gives_28

set_option maxHeartbeats 4000000 in
theorem jSmoke_gives_ok {x1 : Int32} {x2 : Int32} {x3 : Int32} {x4 : Int32} {S SF : St} {r : Int32} (hf : jSmoke_gives x1 x2 x3 x4 S = some (r, SF)) : XMet l D 40 (cellC T q) q T (ExC aK aV) yX6_gives cX6_gives 5 (some .int) ({ frames := 1, cells := 0, slots := 0, locals := 23 }) [.ref (q 0), .int x1, .int x2, .int x3, .int x4] S (some (.int r)) SF := by
  refine x_enter (own := RX6) (by decide +kernel) rfl (Nat.le_of_ble_eq_true rfl) (fun p e s m below meth c A B ls hw hl0 => ?_)
  have hl : lv_has ls 5 [(0, .ref (q 0)), (1, .int x1), (2, .int x2), (3, .int x3), (4, .int x4)] := hl0
  exact jSmoke_gives_b0_ok B x1 x2 x3 x4 S hf hw hl

set_option maxHeartbeats 4000000 in
theorem jSmoke_burns_b24_ok (B : XB p s m args meth c A cX6_burns 4 (some .int) RX6) {SF : St} {r : Int32} (K24 : Int32 → Int32 → Int32 → St → Option (Int32 × St)) (hK24 : ∀ (x1 : Int32) (x2 : Int32) (x3 : Int32) (S : St) (H : Heap) (locs : List Loc) (ls : Array Slot), K24 x1 x2 x3 S = some (r, SF) → Xw D 40 (cellC T q) q T (ExC aK aV) A s S H locs → lv_has ls 4 [(0, .ref (q 0)), (1, .int x1), (2, .int x2), (3, .int x3)] → XG p l e ({ frames := 2, cells := 0, slots := 0, locals := 45 }) s m args below meth c D 40 (cellC T q) q T A SF (some (.int r)) H locs 24 ls [])  (x1 : Int32) (x2 : Int32) (x3 : Int32) (S : St) {H : Heap} {locs : List Loc} {ls : Array Slot} (hf : jSmoke_burns_b24 K24 x1 x2 x3 S = some (r, SF)) (hw : Xw D 40 (cellC T q) q T (ExC aK aV) A s S H locs) (hl : lv_has ls 4 [(0, .ref (q 0)), (1, .int x1), (2, .int x2), (3, .int x3)]) : XG p l e ({ frames := 2, cells := 0, slots := 0, locals := 45 }) s m args below meth c D 40 (cellC T q) q T A SF (some (.int r)) H locs 24 ls [] := by
  unfold jSmoke_burns_b24 at hf
  obtain ⟨hx, hb, hr, hml, hown, hts, hlk, hA⟩ := id B
  refine lv_iload_n hx hb dX6_burns_24 rfl (lv_at hl 3 rfl) ?_
  refine lv_iconst (v := 5) hx hb dX6_burns_25 (by decide) ?_
  refine lv_icmp_ge (tgt := 54) hx hb dX6_burns_26 (by decide) (fun hc => ?_) (fun hc => ?_)
  · have hf := x_pos hc hf
    refine lv_iload_n hx hb dX6_burns_54 rfl (lv_at hl 2 rfl) ?_
    exact x_iret B hw hf dX6_burns_55
  · have hf := x_neg hc hf
    refine lv_aload_n hx hb dX6_burns_29 rfl (lv_at hl 0 rfl) ?_
    refine x_get B hw (Tb := TX6) inX6 0 (by decide) rfl rfl 3 (by decide) u233 (fun _ h => h) rfl dX6_burns_30 ?_
    refine lv_iload_n hx hb dX6_burns_33 rfl (lv_at hl 1 rfl) ?_
    refine lv_iload_n hx hb dX6_burns_34 rfl (lv_at hl 3 rfl) ?_
    refine lv_aload_n hx hb dX6_burns_35 rfl (lv_at hl 0 rfl) ?_
    refine x_get B hw (Tb := TX6) inX6 0 (by decide) rfl rfl 3 (by decide) u233 (fun _ h => h) rfl dX6_burns_36 ?_
    refine lv_iload_n hx hb dX6_burns_39 rfl (lv_at hl 1 rfl) ?_
    refine lv_iload_n hx hb dX6_burns_40 rfl (lv_at hl 3 rfl) ?_
    obtain ⟨v6, S5, hc, hf⟩ := x_bd_some hf
    refine x_callV B ExC_ok hw 19 (by decide) rfl rfl (As := [.int x1, .int x3]) (rest := [.int x3, .int x1, .ref (q 19)]) (st1 := [.int v6, .int x3, .int x1, .ref (q 19)]) (jSuppers_stock_ok hc) u402 u403 u404 u42 u405 hdX3_stock rfl ⟨Nat.le_of_ble_eq_true rfl, Nat.le_of_ble_eq_true rfl⟩ ⟨rfl, rfl⟩ hl.1 (Nat.le_of_ble_eq_true rfl) dX6_burns_41 (fun H locs hw => ?_) rfl rfl
    refine lv_ineg hx hb dX6_burns_44 ?_
    obtain ⟨S7, hc, hf⟩ := x_bv_some hf
    refine x_callV B ExC_ok hw 19 (by decide) rfl rfl (As := [.int x1, .int x3, .int (-v6)]) (rest := []) (st1 := []) (jSuppers_change_ok hc) u440 u441 u442 u42 u443 hdX3_change rfl ⟨Nat.le_of_ble_eq_true rfl, Nat.le_of_ble_eq_true rfl⟩ ⟨rfl, rfl⟩ hl.1 (Nat.le_of_ble_eq_true rfl) dX6_burns_45 (fun H locs hw => ?_) rfl rfl
    refine lv_iinc (v := x3 + 1) (lv' := [(3, .int (x3 + 1)), (0, .ref (q 0)), (1, .int x1), (2, .int x2)]) hx hb dX6_burns_48 hl (k := 3) rfl xi_1 (by decide) rfl (fun ls hl => ?_)
    refine lv_goto (tgt := 24) hx hb dX6_burns_51 (by decide) ?_
    exact hK24 x1 x2 (x3 + 1) S7 _ _ _ hf hw (lv_sub hl [1, 2, 3, 0] rfl)

theorem jSmoke_burns_h24_ok (B : XB p s m args meth c A cX6_burns 4 (some .int) RX6) {SF : St} {r : Int32} : ∀ (n : Nat) (x1 : Int32) (x2 : Int32) (x3 : Int32) (S : St) (H : Heap) (locs : List Loc) (ls : Array Slot), jSmoke_burns_h24 n x1 x2 x3 S = some (r, SF) → Xw D 40 (cellC T q) q T (ExC aK aV) A s S H locs → lv_has ls 4 [(0, .ref (q 0)), (1, .int x1), (2, .int x2), (3, .int x3)] → XG p l e ({ frames := 2, cells := 0, slots := 0, locals := 45 }) s m args below meth c D 40 (cellC T q) q T A SF (some (.int r)) H locs 24 ls [] := by
  intro n
  induction n with
  | zero =>
    intro x1 x2 x3 S H locs ls hf hw hl
    rw [jSmoke_burns_h24] at hf
    cases hf
  | succ n ih =>
    intro x1 x2 x3 S H locs ls hf hw hl
    rw [jSmoke_burns_h24] at hf
    exact jSmoke_burns_b24_ok B (jSmoke_burns_h24 n) ih x1 x2 x3 S hf hw hl

set_option maxHeartbeats 4000000 in
theorem jSmoke_burns_b0_ok (B : XB p s m args meth c A cX6_burns 4 (some .int) RX6) {SF : St} {r : Int32}  (x1 : Int32) (S : St) {H : Heap} {locs : List Loc} {ls : Array Slot} (hf : jSmoke_burns x1 S = some (r, SF)) (hw : Xw D 40 (cellC T q) q T (ExC aK aV) A s S H locs) (hl : lv_has ls 4 [(0, .ref (q 0)), (1, .int x1)]) : XG p l e ({ frames := 2, cells := 0, slots := 0, locals := 45 }) s m args below meth c D 40 (cellC T q) q T A SF (some (.int r)) H locs 0 ls [] := by
  unfold jSmoke_burns at hf
  obtain ⟨hx, hb, hr, hml, hown, hts, hlk, hA⟩ := id B
  refine lv_aload_n hx hb dX6_burns_0 rfl (lv_at hl 0 rfl) ?_
  refine x_get B hw (Tb := TX6) inX6 0 (by decide) rfl rfl 3 (by decide) u233 (fun _ h => h) rfl dX6_burns_1 ?_
  refine lv_iload_n hx hb dX6_burns_4 rfl (lv_at hl 1 rfl) ?_
  obtain ⟨v2, S1, hc, hf⟩ := x_bd_some hf
  refine x_callV B ExC_ok hw 19 (by decide) rfl rfl (As := [.int x1]) (rest := []) (st1 := [.int v2]) (jSuppers_hasHouse_ok hc) u398 u399 u400 u42 u401 hdX3_hasHouse rfl ⟨Nat.le_of_ble_eq_true rfl, Nat.le_of_ble_eq_true rfl⟩ ⟨rfl, rfl⟩ hl.1 (Nat.le_of_ble_eq_true rfl) dX6_burns_5 (fun H locs hw => ?_) rfl rfl
  refine lv_if_ne (tgt := 13) hx hb dX6_burns_8 (by decide) (fun hc => ?_) (fun hc => ?_)
  · have hf := x_neg hc hf
    refine lv_aload_n hx hb dX6_burns_13 rfl (lv_at hl 0 rfl) ?_
    refine x_get B hw (Tb := TX6) inX6 0 (by decide) rfl rfl 3 (by decide) u233 (fun _ h => h) rfl dX6_burns_14 ?_
    refine lv_iload_n hx hb dX6_burns_17 rfl (lv_at hl 1 rfl) ?_
    obtain ⟨v4, S3, hc, hf⟩ := x_bd_some hf
    refine x_callV B ExC_ok hw 19 (by decide) rfl rfl (As := [.int x1]) (rest := []) (st1 := [.int v4]) (jSuppers_allStock_ok hc) u406 u407 u408 u42 u409 hdX3_allStock rfl ⟨Nat.le_of_ble_eq_true rfl, Nat.le_of_ble_eq_true rfl⟩ ⟨rfl, rfl⟩ hl.1 (Nat.le_of_ble_eq_true rfl) dX6_burns_18 (fun H locs hw => ?_) rfl rfl
    refine lv_istore_n (lv' := [(2, .int v4), (0, .ref (q 0)), (1, .int x1)]) hx hb dX6_burns_21 rfl hl (by decide) rfl (fun ls hl => ?_)
    refine lv_iconst (v := 0) hx hb dX6_burns_22 (by decide) ?_
    refine lv_istore_n (lv' := [(3, .int 0), (2, .int v4), (0, .ref (q 0)), (1, .int x1)]) hx hb dX6_burns_23 rfl hl (by decide) rfl (fun ls hl => ?_)
    exact jSmoke_burns_h24_ok B FU x1 v4 0 S3 _ _ _ hf hw (lv_sub hl [2, 3, 1, 0] rfl)
  · have hf := x_pos hc hf
    refine lv_iconst (v := (-1)) hx hb dX6_burns_11 (by decide) ?_
    exact x_iret B hw hf dX6_burns_12

set_option maxHeartbeats 4000000 in
theorem jSmoke_burns_ok {x1 : Int32} {S SF : St} {r : Int32} (hf : jSmoke_burns x1 S = some (r, SF)) : XMet l D 40 (cellC T q) q T (ExC aK aV) yX6_burns cX6_burns 4 (some .int) ({ frames := 2, cells := 0, slots := 0, locals := 45 }) [.ref (q 0), .int x1] S (some (.int r)) SF := by
  refine x_enter (own := RX6) (by decide +kernel) rfl (Nat.le_of_ble_eq_true rfl) (fun p e s m below meth c A B ls hw hl0 => ?_)
  have hl : lv_has ls 4 [(0, .ref (q 0)), (1, .int x1)] := hl0
  exact jSmoke_burns_b0_ok B x1 S hf hw hl

set_option maxHeartbeats 4000000 in
theorem jSmoke_plume_b0_ok (B : XB p s m args meth c A cX6_plume 3 (some .int) RX6) {SF : St} {r : Int32}  (x1 : Int32) (x2 : Int32) (S : St) {H : Heap} {locs : List Loc} {ls : Array Slot} (hf : jSmoke_plume x1 x2 S = some (r, SF)) (hw : Xw D 40 (cellC T q) q T (ExC aK aV) A s S H locs) (hl : lv_has ls 3 [(0, .ref (q 0)), (1, .int x1), (2, .int x2)]) : XG p l e ({ frames := 0, cells := 0, slots := 0, locals := 0 }) s m args below meth c D 40 (cellC T q) q T A SF (some (.int r)) H locs 0 ls [] := by
  unfold jSmoke_plume at hf
  obtain ⟨hx, hb, hr, hml, hown, hts, hlk, hA⟩ := id B
  refine lv_iload_n hx hb dX6_plume_0 rfl (lv_at hl 1 rfl) ?_
  refine lv_if_lt (tgt := 24) hx hb dX6_plume_1 (by decide) (fun hc => ?_) (fun hc => ?_)
  · have hf := x_pos hc hf
    refine lv_iconst (v := (-1)) hx hb dX6_plume_24 (by decide) ?_
    exact x_iret B hw hf dX6_plume_25
  · have hf := x_neg hc hf
    refine lv_iload_n hx hb dX6_plume_4 rfl (lv_at hl 1 rfl) ?_
    refine lv_aload_n hx hb dX6_plume_5 rfl (lv_at hl 0 rfl) ?_
    refine x_get B hw (Tb := TX6) inX6 0 (by decide) rfl rfl 3 (by decide) u233 (fun _ h => h) rfl dX6_plume_6 ?_
    refine x_get B hw (Tb := TX3) inX3 19 (by decide) rfl rfl 4 (by decide) u143 (fun _ h => h) rfl dX6_plume_9 ?_
    refine lv_icmp_ge (tgt := 24) hx hb dX6_plume_12 (by decide) (fun hc => ?_) (fun hc => ?_)
    · have hf := x_pos hc hf
      refine lv_iconst (v := (-1)) hx hb dX6_plume_24 (by decide) ?_
      exact x_iret B hw hf dX6_plume_25
    · have hf := x_neg hc hf
      refine lv_iload_n hx hb dX6_plume_15 rfl (lv_at hl 2 rfl) ?_
      refine lv_if_lt (tgt := 24) hx hb dX6_plume_16 (by decide) (fun hc => ?_) (fun hc => ?_)
      · have hf := x_pos hc hf
        refine lv_iconst (v := (-1)) hx hb dX6_plume_24 (by decide) ?_
        exact x_iret B hw hf dX6_plume_25
      · have hf := x_neg hc hf
        refine lv_iload_n hx hb dX6_plume_19 rfl (lv_at hl 2 rfl) ?_
        refine lv_iconst (v := 1) hx hb dX6_plume_20 (by decide) ?_
        refine lv_icmp_le (tgt := 26) hx hb dX6_plume_21 (by decide) (fun hc => ?_) (fun hc => ?_)
        · have hf := x_pos hc hf
          refine lv_iload_n hx hb dX6_plume_26 rfl (lv_at hl 2 rfl) ?_
          refine lv_if_ne (tgt := 42) hx hb dX6_plume_27 (by decide) (fun hc => ?_) (fun hc => ?_)
          · have hf := x_neg hc hf
            refine lv_aload_n hx hb dX6_plume_42 rfl (lv_at hl 0 rfl) ?_
            refine x_get B hw (Tb := TX6) inX6 0 (by decide) rfl rfl 2 (by decide) u232 (fun _ h => h) rfl dX6_plume_43 ?_
            refine x_get B hw (Tb := TX1) inX1 14 (by decide) rfl rfl 2 (by decide) u108 (fun _ h => h) rfl dX6_plume_46 ?_
            refine lv_aload_n hx hb dX6_plume_49 rfl (lv_at hl 0 rfl) ?_
            refine x_get B hw (Tb := TX6) inX6 0 (by decide) rfl rfl 3 (by decide) u233 (fun _ h => h) rfl dX6_plume_50 ?_
            refine x_get B hw (Tb := TX3) inX3 19 (by decide) rfl rfl 2 (by decide) u137 (fun _ h => h) rfl dX6_plume_53 ?_
            refine lv_iload_n hx hb dX6_plume_56 rfl (lv_at hl 1 rfl) ?_
            refine x_iald B hw 22 (by decide) rfl dX6_plume_57 hf (fun v1 hf => ?_)
            refine x_iald B hw 17 (by decide) rfl dX6_plume_58 hf (fun v2 hf => ?_)
            exact x_iret B hw hf dX6_plume_59
          · have hf := x_pos hc hf
            refine lv_aload_n hx hb dX6_plume_30 rfl (lv_at hl 0 rfl) ?_
            refine x_get B hw (Tb := TX6) inX6 0 (by decide) rfl rfl 3 (by decide) u233 (fun _ h => h) rfl dX6_plume_31 ?_
            refine x_get B hw (Tb := TX3) inX3 19 (by decide) rfl rfl 1 (by decide) u135 (fun _ h => h) rfl dX6_plume_34 ?_
            refine lv_iload_n hx hb dX6_plume_37 rfl (lv_at hl 1 rfl) ?_
            refine x_iald B hw 21 (by decide) rfl dX6_plume_38 hf (fun v3 hf => ?_)
            refine lv_goto (tgt := 59) hx hb dX6_plume_39 (by decide) ?_
            exact x_iret B hw hf dX6_plume_59
        · have hf := x_neg hc hf
          refine lv_iconst (v := (-1)) hx hb dX6_plume_24 (by decide) ?_
          exact x_iret B hw hf dX6_plume_25

set_option maxHeartbeats 4000000 in
theorem jSmoke_plume_ok {x1 : Int32} {x2 : Int32} {S SF : St} {r : Int32} (hf : jSmoke_plume x1 x2 S = some (r, SF)) : XMet l D 40 (cellC T q) q T (ExC aK aV) yX6_plume cX6_plume 3 (some .int) ({ frames := 0, cells := 0, slots := 0, locals := 0 }) [.ref (q 0), .int x1, .int x2] S (some (.int r)) SF := by
  refine x_enter (own := RX6) (by decide +kernel) rfl (Nat.le_of_ble_eq_true rfl) (fun p e s m below meth c A B ls hw hl0 => ?_)
  have hl : lv_has ls 3 [(0, .ref (q 0)), (1, .int x1), (2, .int x2)] := hl0
  exact jSmoke_plume_b0_ok B x1 x2 S hf hw hl

set_option maxHeartbeats 4000000 in
theorem jSmoke_fog_b0_ok (B : XB p s m args meth c A cX6_fog 3 (some .int) RX6) {SF : St} {r : Int32}  (x1 : Int32) (S : St) {H : Heap} {locs : List Loc} {ls : Array Slot} (hf : jSmoke_fog x1 S = some (r, SF)) (hw : Xw D 40 (cellC T q) q T (ExC aK aV) A s S H locs) (hl : lv_has ls 3 [(0, .ref (q 0)), (1, .int x1)]) : XG p l e ({ frames := 0, cells := 0, slots := 0, locals := 0 }) s m args below meth c D 40 (cellC T q) q T A SF (some (.int r)) H locs 0 ls [] := by
  unfold jSmoke_fog at hf
  obtain ⟨hx, hb, hr, hml, hown, hts, hlk, hA⟩ := id B
  refine lv_iload_n hx hb dX6_fog_0 rfl (lv_at hl 1 rfl) ?_
  refine lv_if_lt (tgt := 9) hx hb dX6_fog_1 (by decide) (fun hc => ?_) (fun hc => ?_)
  · have hf := x_pos hc hf
    refine lv_iconst (v := (-1)) hx hb dX6_fog_9 (by decide) ?_
    exact x_iret B hw hf dX6_fog_10
  · have hf := x_neg hc hf
    refine lv_iload_n hx hb dX6_fog_4 rfl (lv_at hl 1 rfl) ?_
    refine lv_iconst (v := 5) hx hb dX6_fog_5 (by decide) ?_
    refine lv_icmp_le (tgt := 11) hx hb dX6_fog_6 (by decide) (fun hc => ?_) (fun hc => ?_)
    · have hf := x_pos hc hf
      refine lv_aload_n hx hb dX6_fog_11 rfl (lv_at hl 0 rfl) ?_
      refine x_get B hw (Tb := TX6) inX6 0 (by decide) rfl rfl 3 (by decide) u233 (fun _ h => h) rfl dX6_fog_12 ?_
      refine x_get B hw (Tb := TX3) inX3 19 (by decide) rfl rfl 5 (by decide) u146 (fun _ h => h) rfl dX6_fog_15 ?_
      refine x_leti hf (fun v1 hf => ?_)
      refine lv_istore_n (lv' := [(2, .int v1), (0, .ref (q 0)), (1, .int x1)]) hx hb dX6_fog_18 rfl hl (by decide) rfl (fun ls hl => ?_)
      refine lv_aload_n hx hb dX6_fog_19 rfl (lv_at hl 1 rfl) ?_
      refine x_get B hw (Tb := TX6) inX6 0 (by decide) rfl rfl 3 (by decide) u233 (fun _ h => h) rfl dX6_fog_20 ?_
      refine lv_iload_n hx hb dX6_fog_23 rfl (lv_at hl 2 rfl) ?_
      refine x_put B hw (Tb := TX3) inX3 tyX3 tyX3_ok nmX3 19 (by decide) rfl rfl 5 (by decide) u146 (fun _ h => h) rfl (ty := .int) (by decide +kernel) rfl rfl (Nat.le_of_ble_eq_true rfl) (S1 := upI S 19 5 x1) rfl upI_o (fun _ _ => rfl) dX6_fog_24 hf (fun S2 H locs hw hf => ?_)
      refine lv_iload_n hx hb dX6_fog_27 rfl (lv_at hl 0 rfl) ?_
      exact x_iret B hw hf dX6_fog_28
    · have hf := x_neg hc hf
      refine lv_iconst (v := (-1)) hx hb dX6_fog_9 (by decide) ?_
      exact x_iret B hw hf dX6_fog_10

set_option maxHeartbeats 4000000 in
theorem jSmoke_fog_ok {x1 : Int32} {S SF : St} {r : Int32} (hf : jSmoke_fog x1 S = some (r, SF)) : XMet l D 40 (cellC T q) q T (ExC aK aV) yX6_fog cX6_fog 3 (some .int) ({ frames := 0, cells := 0, slots := 0, locals := 0 }) [.ref (q 0), .int x1] S (some (.int r)) SF := by
  refine x_enter (own := RX6) (by decide +kernel) rfl (Nat.le_of_ble_eq_true rfl) (fun p e s m below meth c A B ls hw hl0 => ?_)
  have hl : lv_has ls 3 [(0, .ref (q 0)), (1, .int x1)] := hl0
  exact jSmoke_fog_b0_ok B x1 S hf hw hl

set_option maxHeartbeats 4000000 in
theorem jSmoke_isWord_b0_ok (B : XB p s m args meth c A cX6_isWord 1 (some .boolean) RX6) {SF : St} {r : Int32}  (x0 : Int32) (S : St) {H : Heap} {locs : List Loc} {ls : Array Slot} (hf : jSmoke_isWord x0 S = some (r, SF)) (hw : Xw D 40 (cellC T q) q T (ExC aK aV) A s S H locs) (hl : lv_has ls 1 [(0, .int x0)]) : XG p l e ({ frames := 0, cells := 0, slots := 0, locals := 0 }) s m args below meth c D 40 (cellC T q) q T A SF (some (.int r)) H locs 0 ls [] := by
  unfold jSmoke_isWord at hf
  obtain ⟨hx, hb, hr, hml, hown, hts, hlk, hA⟩ := id B
  refine lv_iload_n hx hb dX6_isWord_0 rfl (lv_at hl 0 rfl) ?_
  refine lv_if_lt (tgt := 14) hx hb dX6_isWord_1 (by decide) (fun hc => ?_) (fun hc => ?_)
  · have hf := x_pos hc hf
    refine lv_iconst (v := 0) hx hb dX6_isWord_14 (by decide) ?_
    exact x_zret B hw hf dX6_isWord_15
  · have hf := x_neg hc hf
    refine lv_iload_n hx hb dX6_isWord_4 rfl (lv_at hl 0 rfl) ?_
    refine lv_bipush (v := 8) hx hb dX6_isWord_5 (by decide) ?_
    refine lv_icmp_ge (tgt := 14) hx hb dX6_isWord_7 (by decide) (fun hc => ?_) (fun hc => ?_)
    · have hf := x_pos hc hf
      refine lv_iconst (v := 0) hx hb dX6_isWord_14 (by decide) ?_
      exact x_zret B hw hf dX6_isWord_15
    · have hf := x_neg hc hf
      refine lv_iconst (v := 1) hx hb dX6_isWord_10 (by decide) ?_
      refine lv_goto (tgt := 15) hx hb dX6_isWord_11 (by decide) ?_
      exact x_zret B hw hf dX6_isWord_15

set_option maxHeartbeats 4000000 in
theorem jSmoke_isWord_ok {x0 : Int32} {S SF : St} {r : Int32} (hf : jSmoke_isWord x0 S = some (r, SF)) : XMet l D 40 (cellC T q) q T (ExC aK aV) yX6_isWord cX6_isWord 1 (some .boolean) ({ frames := 0, cells := 0, slots := 0, locals := 0 }) [.int x0] S (some (.int r)) SF := by
  refine x_enter (own := RX6) (by decide +kernel) rfl (Nat.le_of_ble_eq_true rfl) (fun p e s m below meth c A B ls hw hl0 => ?_)
  have hl : lv_has ls 1 [(0, .int x0)] := hl0
  exact jSmoke_isWord_b0_ok B x0 S hf hw hl
end
