section
variable {p : Program} {l : Launch} {e : Env} {s : State} {m : MethodId} {args : Array Value} {below : List Frame} {meth : Method} {c : Code} {D : va_G} {q aK aV : Nat → Nat} {T : Nat → ClassId} {A : Nat → Prop}
set_option maxHeartbeats 4000000 in
theorem jSpeech_choose_4_b13_ok (B : XB p s m args meth c A cX2_choose 6 none RX2) {SF : St}  (x4 : Int32) (S : St) {H : Heap} {locs : List Loc} {ls : Array Slot} (hf : jSpeech_choose_4_b13 x4 S = some SF) (hw : Xw D 40 (cellC T q) q T (ExC aK aV) A s S H locs) (hl : lv_has ls 6 [(0, .ref (q 31)), (4, .int x4)]) : XG p l e ({ frames := 5, cells := 0, slots := 0, locals := 120 }) s m args below meth c D 40 (cellC T q) q T A SF none H locs 13 ls [] := by
  unfold jSpeech_choose_4_b13 at hf
  obtain ⟨hx, hb, hr, hml, hown, hts, hlk, hA⟩ := id B
  refine lv_aload_n hx hb dX2_choose_13 rfl (lv_at hl 0 rfl) ?_
  refine lv_iload hx hb dX2_choose_14 (lv_at hl 1 rfl) ?_
  obtain ⟨S1, hc, hf⟩ := x_bv_some hf
  refine x_callV B ExC_ok hw 31 (by decide) rfl rfl (As := [.int x4]) (rest := []) (st1 := []) (jSpeech_compare_ok hc) u492 u494 u7 u43 u495 hdX2_compare rfl ⟨Nat.le_of_ble_eq_true rfl, Nat.le_of_ble_eq_true rfl⟩ ⟨rfl, rfl⟩ hl.1 (Nat.le_of_ble_eq_true rfl) dX2_choose_16 (fun H locs hw => ?_) rfl rfl
  exact x_vret B hw hf dX2_choose_19

set_option maxHeartbeats 4000000 in
theorem jSpeech_choose_4_b43_ok (B : XB p s m args meth c A cX2_choose 6 none RX2) {SF : St} (K43 : Int32 → Int32 → Int32 → Int32 → St → Option (St)) (hK43 : ∀ (x2 : Int32) (x3 : Int32) (x4 : Int32) (x5 : Int32) (S : St) (H : Heap) (locs : List Loc) (ls : Array Slot), K43 x2 x3 x4 x5 S = some SF → Xw D 40 (cellC T q) q T (ExC aK aV) A s S H locs → lv_has ls 6 [(0, .ref (q 31)), (1, .ref (q 14)), (2, .int x2), (3, .int x3), (4, .int x4), (5, .int x5)] → XG p l e ({ frames := 5, cells := 0, slots := 0, locals := 120 }) s m args below meth c D 40 (cellC T q) q T A SF none H locs 43 ls [])  (x2 : Int32) (x3 : Int32) (x4 : Int32) (x5 : Int32) (S : St) {H : Heap} {locs : List Loc} {ls : Array Slot} (hf : jSpeech_choose_4_b43 K43 x2 x3 x4 x5 S = some SF) (hw : Xw D 40 (cellC T q) q T (ExC aK aV) A s S H locs) (hl : lv_has ls 6 [(0, .ref (q 31)), (1, .ref (q 14)), (2, .int x2), (3, .int x3), (4, .int x4), (5, .int x5)]) : XG p l e ({ frames := 5, cells := 0, slots := 0, locals := 120 }) s m args below meth c D 40 (cellC T q) q T A SF none H locs 43 ls [] := by
  unfold jSpeech_choose_4_b43 at hf
  obtain ⟨hx, hb, hr, hml, hown, hts, hlk, hA⟩ := id B
  refine lv_iload hx hb dX2_choose_43 (lv_at hl 5 rfl) ?_
  refine lv_aload_n hx hb dX2_choose_45 rfl (lv_at hl 1 rfl) ?_
  refine x_get B hw (Tb := TX1) inX1 14 (by decide) rfl rfl 4 (by decide) u114 (fun _ h => h) rfl dX2_choose_46 ?_
  refine lv_icmp_ge (tgt := 137) hx hb dX2_choose_49 (by decide) (fun hc => ?_) (fun hc => ?_)
  · have hf := x_pos hc hf
    exact x_vret B hw hf dX2_choose_137
  · have hf := x_neg hc hf
    refine lv_aload_n hx hb dX2_choose_52 rfl (lv_at hl 1 rfl) ?_
    refine x_get B hw (Tb := TX1) inX1 14 (by decide) rfl rfl 3 (by decide) u110 (fun _ h => h) rfl dX2_choose_53 ?_
    refine lv_iload hx hb dX2_choose_56 (lv_at hl 5 rfl) ?_
    refine x_iald B hw 18 (by decide) rfl dX2_choose_58 hf (fun v2 hf => ?_)
    refine lv_aload_n hx hb dX2_choose_59 rfl (lv_at hl 0 rfl) ?_
    refine x_get B hw (Tb := TX2) inX2 31 (by decide) rfl rfl 0 (by decide) u193 (fun _ h => h) rfl dX2_choose_60 ?_
    refine lv_iload_n hx hb dX2_choose_63 rfl (lv_at hl 2 rfl) ?_
    refine x_iald B hw 32 (by decide) rfl dX2_choose_64 hf (fun v3 hf => ?_)
    refine lv_icmp_ne (tgt := 131) hx hb dX2_choose_65 (by decide) (fun hc => ?_) (fun hc => ?_)
    · have hf := x_neg hc hf
      refine lv_iinc (v := x5 + 1) (lv' := [(5, .int (x5 + 1)), (0, .ref (q 31)), (1, .ref (q 14)), (2, .int x2), (3, .int x3), (4, .int x4)]) hx hb dX2_choose_131 hl (k := 5) rfl xi_1 (by decide) rfl (fun ls hl => ?_)
      refine lv_goto (tgt := 43) hx hb dX2_choose_134 (by decide) ?_
      exact hK43 x2 x3 x4 (x5 + 1) S _ _ _ hf hw (lv_sub hl [1, 2, 3, 4, 5, 0] rfl)
    · have hf := x_pos hc hf
      refine lv_aload_n hx hb dX2_choose_68 rfl (lv_at hl 1 rfl) ?_
      refine lv_iload hx hb dX2_choose_69 (lv_at hl 5 rfl) ?_
      refine lv_aload_n hx hb dX2_choose_71 rfl (lv_at hl 0 rfl) ?_
      refine x_get B hw (Tb := TX2) inX2 31 (by decide) rfl rfl 3 (by decide) u197 (fun _ h => h) rfl dX2_choose_72 ?_
      obtain ⟨v5, S4, hc, hf⟩ := x_bd_some hf
      refine x_callV B ExC_ok hw 14 (by decide) rfl rfl (As := [.int x5, .ref (q 35)]) (rest := []) (st1 := [.int v5]) (jMenu_fits_35_ok hc) u496 u436 u437 u41 u438 hdX1_fits rfl ⟨Nat.le_of_ble_eq_true rfl, Nat.le_of_ble_eq_true rfl⟩ ⟨rfl, rfl⟩ hl.1 (Nat.le_of_ble_eq_true rfl) dX2_choose_75 (fun H locs hw => ?_) rfl rfl
      refine lv_if_ne (tgt := 84) hx hb dX2_choose_78 (by decide) (fun hc => ?_) (fun hc => ?_)
      · have hf := x_neg hc hf
        refine lv_aload_n hx hb dX2_choose_84 rfl (lv_at hl 0 rfl) ?_
        refine x_get B hw (Tb := TX2) inX2 31 (by decide) rfl rfl 1 (by decide) u194 (fun _ h => h) rfl dX2_choose_85 ?_
        refine lv_iload_n hx hb dX2_choose_88 rfl (lv_at hl 2 rfl) ?_
        refine lv_iload hx hb dX2_choose_89 (lv_at hl 5 rfl) ?_
        refine x_iast B hw 33 (by decide) (fun _ _ => rfl) dX2_choose_91 hf (fun S6 H locs hw hf => ?_)
        refine lv_aload_n hx hb dX2_choose_92 rfl (lv_at hl 1 rfl) ?_
        refine lv_iload hx hb dX2_choose_93 (lv_at hl 5 rfl) ?_
        refine lv_aload_n hx hb dX2_choose_95 rfl (lv_at hl 0 rfl) ?_
        refine x_get B hw (Tb := TX2) inX2 31 (by decide) rfl rfl 3 (by decide) u197 (fun _ h => h) rfl dX2_choose_96 ?_
        obtain ⟨S7, hc, hf⟩ := x_bv_some hf
        refine x_callV B ExC_ok hw 14 (by decide) rfl rfl (As := [.int x5, .ref (q 35)]) (rest := []) (st1 := []) (jMenu_take_35_ok hc) u497 u498 u499 u41 u500 hdX1_take rfl ⟨Nat.le_of_ble_eq_true rfl, Nat.le_of_ble_eq_true rfl⟩ ⟨rfl, rfl⟩ hl.1 (Nat.le_of_ble_eq_true rfl) dX2_choose_99 (fun H locs hw => ?_) rfl rfl
        refine lv_aload_n hx hb dX2_choose_102 rfl (lv_at hl 0 rfl) ?_
        refine lv_aload_n hx hb dX2_choose_103 rfl (lv_at hl 1 rfl) ?_
        refine lv_iload_n hx hb dX2_choose_104 rfl (lv_at hl 2 rfl) ?_
        refine lv_iconst (v := 1) hx hb dX2_choose_105 (by decide) ?_
        refine lv_iadd hx hb dX2_choose_106 ?_
        refine lv_iload_n hx hb dX2_choose_107 rfl (lv_at hl 3 rfl) ?_
        refine lv_iload hx hb dX2_choose_108 (lv_at hl 4 rfl) ?_
        refine lv_aload_n hx hb dX2_choose_110 rfl (lv_at hl 1 rfl) ?_
        refine x_get B hw (Tb := TX1) inX1 14 (by decide) rfl rfl 1 (by decide) u104 (fun _ h => h) rfl dX2_choose_111 ?_
        refine lv_iload hx hb dX2_choose_114 (lv_at hl 5 rfl) ?_
        refine x_iald B hw 16 (by decide) rfl dX2_choose_116 hf (fun v8 hf => ?_)
        refine lv_iadd hx hb dX2_choose_117 ?_
        obtain ⟨S9, hc, hf⟩ := x_bv_some hf
        refine x_callS B ExC_ok hw (As := [.ref (q 31), .ref (q 14), .int (x2 + 1), .int x3, .int (x4 + v8)]) (rest := []) (st1 := []) (jSpeech_choose_3_ok hc) u489 u490 u43 u491 hdX2_choose rfl ⟨Nat.le_of_ble_eq_true rfl, Nat.le_of_ble_eq_true rfl⟩ ⟨rfl, rfl⟩ hl.1 (Nat.le_of_ble_eq_true rfl) dX2_choose_118 (fun H locs hw => ?_) rfl rfl
        refine lv_aload_n hx hb dX2_choose_121 rfl (lv_at hl 1 rfl) ?_
        refine lv_iload hx hb dX2_choose_122 (lv_at hl 5 rfl) ?_
        refine lv_aload_n hx hb dX2_choose_124 rfl (lv_at hl 0 rfl) ?_
        refine x_get B hw (Tb := TX2) inX2 31 (by decide) rfl rfl 3 (by decide) u197 (fun _ h => h) rfl dX2_choose_125 ?_
        obtain ⟨S10, hc, hf⟩ := x_bv_some hf
        refine x_callV B ExC_ok hw 14 (by decide) rfl rfl (As := [.int x5, .ref (q 35)]) (rest := []) (st1 := []) (jMenu_putBack_ok hc) u501 u502 u503 u41 u504 hdX1_putBack rfl ⟨Nat.le_of_ble_eq_true rfl, Nat.le_of_ble_eq_true rfl⟩ ⟨rfl, rfl⟩ hl.1 (Nat.le_of_ble_eq_true rfl) dX2_choose_128 (fun H locs hw => ?_) rfl rfl
        refine lv_iinc (v := x5 + 1) (lv' := [(5, .int (x5 + 1)), (0, .ref (q 31)), (1, .ref (q 14)), (2, .int x2), (3, .int x3), (4, .int x4)]) hx hb dX2_choose_131 hl (k := 5) rfl xi_1 (by decide) rfl (fun ls hl => ?_)
        refine lv_goto (tgt := 43) hx hb dX2_choose_134 (by decide) ?_
        exact hK43 x2 x3 x4 (x5 + 1) S10 _ _ _ hf hw (lv_sub hl [1, 2, 3, 4, 5, 0] rfl)
      · have hf := x_pos hc hf
        refine lv_goto (tgt := 131) hx hb dX2_choose_81 (by decide) ?_
        refine lv_iinc (v := x5 + 1) (lv' := [(5, .int (x5 + 1)), (0, .ref (q 31)), (1, .ref (q 14)), (2, .int x2), (3, .int x3), (4, .int x4)]) hx hb dX2_choose_131 hl (k := 5) rfl xi_1 (by decide) rfl (fun ls hl => ?_)
        refine lv_goto (tgt := 43) hx hb dX2_choose_134 (by decide) ?_
        exact hK43 x2 x3 x4 (x5 + 1) S4 _ _ _ hf hw (lv_sub hl [1, 2, 3, 4, 5, 0] rfl)

theorem jSpeech_choose_4_h43_ok (B : XB p s m args meth c A cX2_choose 6 none RX2) {SF : St} : ∀ (n : Nat) (x2 : Int32) (x3 : Int32) (x4 : Int32) (x5 : Int32) (S : St) (H : Heap) (locs : List Loc) (ls : Array Slot), jSpeech_choose_4_h43 n x2 x3 x4 x5 S = some SF → Xw D 40 (cellC T q) q T (ExC aK aV) A s S H locs → lv_has ls 6 [(0, .ref (q 31)), (1, .ref (q 14)), (2, .int x2), (3, .int x3), (4, .int x4), (5, .int x5)] → XG p l e ({ frames := 5, cells := 0, slots := 0, locals := 120 }) s m args below meth c D 40 (cellC T q) q T A SF none H locs 43 ls [] := by
  intro n
  induction n with
  | zero =>
    intro x2 x3 x4 x5 S H locs ls hf hw hl
    rw [jSpeech_choose_4_h43] at hf
    cases hf
  | succ n ih =>
    intro x2 x3 x4 x5 S H locs ls hf hw hl
    rw [jSpeech_choose_4_h43] at hf
    exact jSpeech_choose_4_b43_ok B (jSpeech_choose_4_h43 n) ih x2 x3 x4 x5 S hf hw hl

set_option maxHeartbeats 4000000 in
theorem jSpeech_choose_4_b0_ok (B : XB p s m args meth c A cX2_choose 6 none RX2) {SF : St}  (x2 : Int32) (x3 : Int32) (x4 : Int32) (S : St) {H : Heap} {locs : List Loc} {ls : Array Slot} (hf : jSpeech_choose_4 x2 x3 x4 S = some SF) (hw : Xw D 40 (cellC T q) q T (ExC aK aV) A s S H locs) (hl : lv_has ls 6 [(0, .ref (q 31)), (1, .ref (q 14)), (2, .int x2), (3, .int x3), (4, .int x4)]) : XG p l e ({ frames := 5, cells := 0, slots := 0, locals := 120 }) s m args below meth c D 40 (cellC T q) q T A SF none H locs 0 ls [] := by
  unfold jSpeech_choose_4 at hf
  obtain ⟨hx, hb, hr, hml, hown, hts, hlk, hA⟩ := id B
  refine lv_iload_n hx hb dX2_choose_0 rfl (lv_at hl 2 rfl) ?_
  refine lv_aload_n hx hb dX2_choose_1 rfl (lv_at hl 0 rfl) ?_
  refine x_get B hw (Tb := TX2) inX2 31 (by decide) rfl rfl 4 (by decide) u199 (fun _ h => h) rfl dX2_choose_2 ?_
  refine lv_icmp_ge (tgt := 13) hx hb dX2_choose_5 (by decide) (fun hc => ?_) (fun hc => ?_)
  · have hf := x_pos hc hf
    exact jSpeech_choose_4_b13_ok B x4 S hf hw (lv_sub hl [0, 4] rfl)
  · have hf := x_neg hc hf
    refine lv_iload_n hx hb dX2_choose_8 rfl (lv_at hl 2 rfl) ?_
    refine lv_iconst (v := 3) hx hb dX2_choose_9 (by decide) ?_
    refine lv_icmp_lt (tgt := 20) hx hb dX2_choose_10 (by decide) (fun hc => ?_) (fun hc => ?_)
    · have hf := x_pos hc hf
      refine lv_iload_n hx hb dX2_choose_20 rfl (lv_at hl 3 rfl) ?_
      refine lv_iload_n hx hb dX2_choose_21 rfl (lv_at hl 2 rfl) ?_
      refine lv_ishr hx hb dX2_choose_22 ?_
      refine lv_iconst (v := 1) hx hb dX2_choose_23 (by decide) ?_
      refine lv_iand hx hb dX2_choose_24 ?_
      refine lv_if_ne (tgt := 40) hx hb dX2_choose_25 (by decide) (fun hc => ?_) (fun hc => ?_)
      · have hf := x_neg hc hf
        refine lv_iconst (v := 0) hx hb dX2_choose_40 (by decide) ?_
        refine lv_istore (lv' := [(5, .int 0), (0, .ref (q 31)), (1, .ref (q 14)), (2, .int x2), (3, .int x3), (4, .int x4)]) hx hb dX2_choose_41 hl (by decide) rfl (fun ls hl => ?_)
        exact jSpeech_choose_4_h43_ok B FU x2 x3 x4 0 S _ _ _ hf hw (lv_sub hl [1, 2, 3, 4, 5, 0] rfl)
      · have hf := x_pos hc hf
        refine lv_aload_n hx hb dX2_choose_28 rfl (lv_at hl 0 rfl) ?_
        refine lv_aload_n hx hb dX2_choose_29 rfl (lv_at hl 1 rfl) ?_
        refine lv_iload_n hx hb dX2_choose_30 rfl (lv_at hl 2 rfl) ?_
        refine lv_iconst (v := 1) hx hb dX2_choose_31 (by decide) ?_
        refine lv_iadd hx hb dX2_choose_32 ?_
        refine lv_iload_n hx hb dX2_choose_33 rfl (lv_at hl 3 rfl) ?_
        refine lv_iload hx hb dX2_choose_34 (lv_at hl 4 rfl) ?_
        obtain ⟨S11, hc, hf⟩ := x_bv_some hf
        refine x_callS B ExC_ok hw (As := [.ref (q 31), .ref (q 14), .int (x2 + 1), .int x3, .int x4]) (rest := []) (st1 := []) (jSpeech_choose_3_ok hc) u489 u490 u43 u491 hdX2_choose rfl ⟨Nat.le_of_ble_eq_true rfl, Nat.le_of_ble_eq_true rfl⟩ ⟨rfl, rfl⟩ hl.1 (Nat.le_of_ble_eq_true rfl) dX2_choose_36 (fun H locs hw => ?_) rfl rfl
        exact x_vret B hw hf dX2_choose_39
    · have hf := x_neg hc hf
      exact jSpeech_choose_4_b13_ok B x4 S hf hw (lv_sub hl [0, 4] rfl)

set_option maxHeartbeats 4000000 in
theorem jSpeech_choose_4_ok {x2 : Int32} {x3 : Int32} {x4 : Int32} {S SF : St} (hf : jSpeech_choose_4 x2 x3 x4 S = some SF) : XMet l D 40 (cellC T q) q T (ExC aK aV) yX2_choose cX2_choose 6 none ({ frames := 5, cells := 0, slots := 0, locals := 120 }) [.ref (q 31), .ref (q 14), .int x2, .int x3, .int x4] S none SF := by
  refine x_enter (own := RX2) (by decide +kernel) rfl (Nat.le_of_ble_eq_true rfl) (fun p e s m below meth c A B ls hw hl0 => ?_)
  have hl : lv_has ls 6 [(0, .ref (q 31)), (1, .ref (q 14)), (2, .int x2), (3, .int x3), (4, .int x4)] := hl0
  exact jSpeech_choose_4_b0_ok B x2 x3 x4 S hf hw hl

set_option maxHeartbeats 4000000 in
theorem jSpeech_choose_5_b13_ok (B : XB p s m args meth c A cX2_choose 6 none RX2) {SF : St}  (x4 : Int32) (S : St) {H : Heap} {locs : List Loc} {ls : Array Slot} (hf : jSpeech_choose_5_b13 x4 S = some SF) (hw : Xw D 40 (cellC T q) q T (ExC aK aV) A s S H locs) (hl : lv_has ls 6 [(0, .ref (q 31)), (4, .int x4)]) : XG p l e ({ frames := 6, cells := 0, slots := 0, locals := 145 }) s m args below meth c D 40 (cellC T q) q T A SF none H locs 13 ls [] := by
  unfold jSpeech_choose_5_b13 at hf
  obtain ⟨hx, hb, hr, hml, hown, hts, hlk, hA⟩ := id B
  refine lv_aload_n hx hb dX2_choose_13 rfl (lv_at hl 0 rfl) ?_
  refine lv_iload hx hb dX2_choose_14 (lv_at hl 1 rfl) ?_
  obtain ⟨S1, hc, hf⟩ := x_bv_some hf
  refine x_callV B ExC_ok hw 31 (by decide) rfl rfl (As := [.int x4]) (rest := []) (st1 := []) (jSpeech_compare_ok hc) u492 u494 u7 u43 u495 hdX2_compare rfl ⟨Nat.le_of_ble_eq_true rfl, Nat.le_of_ble_eq_true rfl⟩ ⟨rfl, rfl⟩ hl.1 (Nat.le_of_ble_eq_true rfl) dX2_choose_16 (fun H locs hw => ?_) rfl rfl
  exact x_vret B hw hf dX2_choose_19

set_option maxHeartbeats 4000000 in
theorem jSpeech_choose_5_b43_ok (B : XB p s m args meth c A cX2_choose 6 none RX2) {SF : St} (K43 : Int32 → Int32 → Int32 → Int32 → St → Option (St)) (hK43 : ∀ (x2 : Int32) (x3 : Int32) (x4 : Int32) (x5 : Int32) (S : St) (H : Heap) (locs : List Loc) (ls : Array Slot), K43 x2 x3 x4 x5 S = some SF → Xw D 40 (cellC T q) q T (ExC aK aV) A s S H locs → lv_has ls 6 [(0, .ref (q 31)), (1, .ref (q 14)), (2, .int x2), (3, .int x3), (4, .int x4), (5, .int x5)] → XG p l e ({ frames := 6, cells := 0, slots := 0, locals := 145 }) s m args below meth c D 40 (cellC T q) q T A SF none H locs 43 ls [])  (x2 : Int32) (x3 : Int32) (x4 : Int32) (x5 : Int32) (S : St) {H : Heap} {locs : List Loc} {ls : Array Slot} (hf : jSpeech_choose_5_b43 K43 x2 x3 x4 x5 S = some SF) (hw : Xw D 40 (cellC T q) q T (ExC aK aV) A s S H locs) (hl : lv_has ls 6 [(0, .ref (q 31)), (1, .ref (q 14)), (2, .int x2), (3, .int x3), (4, .int x4), (5, .int x5)]) : XG p l e ({ frames := 6, cells := 0, slots := 0, locals := 145 }) s m args below meth c D 40 (cellC T q) q T A SF none H locs 43 ls [] := by
  unfold jSpeech_choose_5_b43 at hf
  obtain ⟨hx, hb, hr, hml, hown, hts, hlk, hA⟩ := id B
  refine lv_iload hx hb dX2_choose_43 (lv_at hl 5 rfl) ?_
  refine lv_aload_n hx hb dX2_choose_45 rfl (lv_at hl 1 rfl) ?_
  refine x_get B hw (Tb := TX1) inX1 14 (by decide) rfl rfl 4 (by decide) u114 (fun _ h => h) rfl dX2_choose_46 ?_
  refine lv_icmp_ge (tgt := 137) hx hb dX2_choose_49 (by decide) (fun hc => ?_) (fun hc => ?_)
  · have hf := x_pos hc hf
    exact x_vret B hw hf dX2_choose_137
  · have hf := x_neg hc hf
    refine lv_aload_n hx hb dX2_choose_52 rfl (lv_at hl 1 rfl) ?_
    refine x_get B hw (Tb := TX1) inX1 14 (by decide) rfl rfl 3 (by decide) u110 (fun _ h => h) rfl dX2_choose_53 ?_
    refine lv_iload hx hb dX2_choose_56 (lv_at hl 5 rfl) ?_
    refine x_iald B hw 18 (by decide) rfl dX2_choose_58 hf (fun v2 hf => ?_)
    refine lv_aload_n hx hb dX2_choose_59 rfl (lv_at hl 0 rfl) ?_
    refine x_get B hw (Tb := TX2) inX2 31 (by decide) rfl rfl 0 (by decide) u193 (fun _ h => h) rfl dX2_choose_60 ?_
    refine lv_iload_n hx hb dX2_choose_63 rfl (lv_at hl 2 rfl) ?_
    refine x_iald B hw 32 (by decide) rfl dX2_choose_64 hf (fun v3 hf => ?_)
    refine lv_icmp_ne (tgt := 131) hx hb dX2_choose_65 (by decide) (fun hc => ?_) (fun hc => ?_)
    · have hf := x_neg hc hf
      refine lv_iinc (v := x5 + 1) (lv' := [(5, .int (x5 + 1)), (0, .ref (q 31)), (1, .ref (q 14)), (2, .int x2), (3, .int x3), (4, .int x4)]) hx hb dX2_choose_131 hl (k := 5) rfl xi_1 (by decide) rfl (fun ls hl => ?_)
      refine lv_goto (tgt := 43) hx hb dX2_choose_134 (by decide) ?_
      exact hK43 x2 x3 x4 (x5 + 1) S _ _ _ hf hw (lv_sub hl [1, 2, 3, 4, 5, 0] rfl)
    · have hf := x_pos hc hf
      refine lv_aload_n hx hb dX2_choose_68 rfl (lv_at hl 1 rfl) ?_
      refine lv_iload hx hb dX2_choose_69 (lv_at hl 5 rfl) ?_
      refine lv_aload_n hx hb dX2_choose_71 rfl (lv_at hl 0 rfl) ?_
      refine x_get B hw (Tb := TX2) inX2 31 (by decide) rfl rfl 3 (by decide) u197 (fun _ h => h) rfl dX2_choose_72 ?_
      obtain ⟨v5, S4, hc, hf⟩ := x_bd_some hf
      refine x_callV B ExC_ok hw 14 (by decide) rfl rfl (As := [.int x5, .ref (q 35)]) (rest := []) (st1 := [.int v5]) (jMenu_fits_35_ok hc) u496 u436 u437 u41 u438 hdX1_fits rfl ⟨Nat.le_of_ble_eq_true rfl, Nat.le_of_ble_eq_true rfl⟩ ⟨rfl, rfl⟩ hl.1 (Nat.le_of_ble_eq_true rfl) dX2_choose_75 (fun H locs hw => ?_) rfl rfl
      refine lv_if_ne (tgt := 84) hx hb dX2_choose_78 (by decide) (fun hc => ?_) (fun hc => ?_)
      · have hf := x_neg hc hf
        refine lv_aload_n hx hb dX2_choose_84 rfl (lv_at hl 0 rfl) ?_
        refine x_get B hw (Tb := TX2) inX2 31 (by decide) rfl rfl 1 (by decide) u194 (fun _ h => h) rfl dX2_choose_85 ?_
        refine lv_iload_n hx hb dX2_choose_88 rfl (lv_at hl 2 rfl) ?_
        refine lv_iload hx hb dX2_choose_89 (lv_at hl 5 rfl) ?_
        refine x_iast B hw 33 (by decide) (fun _ _ => rfl) dX2_choose_91 hf (fun S6 H locs hw hf => ?_)
        refine lv_aload_n hx hb dX2_choose_92 rfl (lv_at hl 1 rfl) ?_
        refine lv_iload hx hb dX2_choose_93 (lv_at hl 5 rfl) ?_
        refine lv_aload_n hx hb dX2_choose_95 rfl (lv_at hl 0 rfl) ?_
        refine x_get B hw (Tb := TX2) inX2 31 (by decide) rfl rfl 3 (by decide) u197 (fun _ h => h) rfl dX2_choose_96 ?_
        obtain ⟨S7, hc, hf⟩ := x_bv_some hf
        refine x_callV B ExC_ok hw 14 (by decide) rfl rfl (As := [.int x5, .ref (q 35)]) (rest := []) (st1 := []) (jMenu_take_35_ok hc) u497 u498 u499 u41 u500 hdX1_take rfl ⟨Nat.le_of_ble_eq_true rfl, Nat.le_of_ble_eq_true rfl⟩ ⟨rfl, rfl⟩ hl.1 (Nat.le_of_ble_eq_true rfl) dX2_choose_99 (fun H locs hw => ?_) rfl rfl
        refine lv_aload_n hx hb dX2_choose_102 rfl (lv_at hl 0 rfl) ?_
        refine lv_aload_n hx hb dX2_choose_103 rfl (lv_at hl 1 rfl) ?_
        refine lv_iload_n hx hb dX2_choose_104 rfl (lv_at hl 2 rfl) ?_
        refine lv_iconst (v := 1) hx hb dX2_choose_105 (by decide) ?_
        refine lv_iadd hx hb dX2_choose_106 ?_
        refine lv_iload_n hx hb dX2_choose_107 rfl (lv_at hl 3 rfl) ?_
        refine lv_iload hx hb dX2_choose_108 (lv_at hl 4 rfl) ?_
        refine lv_aload_n hx hb dX2_choose_110 rfl (lv_at hl 1 rfl) ?_
        refine x_get B hw (Tb := TX1) inX1 14 (by decide) rfl rfl 1 (by decide) u104 (fun _ h => h) rfl dX2_choose_111 ?_
        refine lv_iload hx hb dX2_choose_114 (lv_at hl 5 rfl) ?_
        refine x_iald B hw 16 (by decide) rfl dX2_choose_116 hf (fun v8 hf => ?_)
        refine lv_iadd hx hb dX2_choose_117 ?_
        obtain ⟨S9, hc, hf⟩ := x_bv_some hf
        refine x_callS B ExC_ok hw (As := [.ref (q 31), .ref (q 14), .int (x2 + 1), .int x3, .int (x4 + v8)]) (rest := []) (st1 := []) (jSpeech_choose_4_ok hc) u489 u490 u43 u491 hdX2_choose rfl ⟨Nat.le_of_ble_eq_true rfl, Nat.le_of_ble_eq_true rfl⟩ ⟨rfl, rfl⟩ hl.1 (Nat.le_of_ble_eq_true rfl) dX2_choose_118 (fun H locs hw => ?_) rfl rfl
        refine lv_aload_n hx hb dX2_choose_121 rfl (lv_at hl 1 rfl) ?_
        refine lv_iload hx hb dX2_choose_122 (lv_at hl 5 rfl) ?_
        refine lv_aload_n hx hb dX2_choose_124 rfl (lv_at hl 0 rfl) ?_
        refine x_get B hw (Tb := TX2) inX2 31 (by decide) rfl rfl 3 (by decide) u197 (fun _ h => h) rfl dX2_choose_125 ?_
        obtain ⟨S10, hc, hf⟩ := x_bv_some hf
        refine x_callV B ExC_ok hw 14 (by decide) rfl rfl (As := [.int x5, .ref (q 35)]) (rest := []) (st1 := []) (jMenu_putBack_ok hc) u501 u502 u503 u41 u504 hdX1_putBack rfl ⟨Nat.le_of_ble_eq_true rfl, Nat.le_of_ble_eq_true rfl⟩ ⟨rfl, rfl⟩ hl.1 (Nat.le_of_ble_eq_true rfl) dX2_choose_128 (fun H locs hw => ?_) rfl rfl
        refine lv_iinc (v := x5 + 1) (lv' := [(5, .int (x5 + 1)), (0, .ref (q 31)), (1, .ref (q 14)), (2, .int x2), (3, .int x3), (4, .int x4)]) hx hb dX2_choose_131 hl (k := 5) rfl xi_1 (by decide) rfl (fun ls hl => ?_)
        refine lv_goto (tgt := 43) hx hb dX2_choose_134 (by decide) ?_
        exact hK43 x2 x3 x4 (x5 + 1) S10 _ _ _ hf hw (lv_sub hl [1, 2, 3, 4, 5, 0] rfl)
      · have hf := x_pos hc hf
        refine lv_goto (tgt := 131) hx hb dX2_choose_81 (by decide) ?_
        refine lv_iinc (v := x5 + 1) (lv' := [(5, .int (x5 + 1)), (0, .ref (q 31)), (1, .ref (q 14)), (2, .int x2), (3, .int x3), (4, .int x4)]) hx hb dX2_choose_131 hl (k := 5) rfl xi_1 (by decide) rfl (fun ls hl => ?_)
        refine lv_goto (tgt := 43) hx hb dX2_choose_134 (by decide) ?_
        exact hK43 x2 x3 x4 (x5 + 1) S4 _ _ _ hf hw (lv_sub hl [1, 2, 3, 4, 5, 0] rfl)

theorem jSpeech_choose_5_h43_ok (B : XB p s m args meth c A cX2_choose 6 none RX2) {SF : St} : ∀ (n : Nat) (x2 : Int32) (x3 : Int32) (x4 : Int32) (x5 : Int32) (S : St) (H : Heap) (locs : List Loc) (ls : Array Slot), jSpeech_choose_5_h43 n x2 x3 x4 x5 S = some SF → Xw D 40 (cellC T q) q T (ExC aK aV) A s S H locs → lv_has ls 6 [(0, .ref (q 31)), (1, .ref (q 14)), (2, .int x2), (3, .int x3), (4, .int x4), (5, .int x5)] → XG p l e ({ frames := 6, cells := 0, slots := 0, locals := 145 }) s m args below meth c D 40 (cellC T q) q T A SF none H locs 43 ls [] := by
  intro n
  induction n with
  | zero =>
    intro x2 x3 x4 x5 S H locs ls hf hw hl
    rw [jSpeech_choose_5_h43] at hf
    cases hf
  | succ n ih =>
    intro x2 x3 x4 x5 S H locs ls hf hw hl
    rw [jSpeech_choose_5_h43] at hf
    exact jSpeech_choose_5_b43_ok B (jSpeech_choose_5_h43 n) ih x2 x3 x4 x5 S hf hw hl

set_option maxHeartbeats 4000000 in
theorem jSpeech_choose_5_b0_ok (B : XB p s m args meth c A cX2_choose 6 none RX2) {SF : St}  (x2 : Int32) (x3 : Int32) (x4 : Int32) (S : St) {H : Heap} {locs : List Loc} {ls : Array Slot} (hf : jSpeech_choose_5 x2 x3 x4 S = some SF) (hw : Xw D 40 (cellC T q) q T (ExC aK aV) A s S H locs) (hl : lv_has ls 6 [(0, .ref (q 31)), (1, .ref (q 14)), (2, .int x2), (3, .int x3), (4, .int x4)]) : XG p l e ({ frames := 6, cells := 0, slots := 0, locals := 145 }) s m args below meth c D 40 (cellC T q) q T A SF none H locs 0 ls [] := by
  unfold jSpeech_choose_5 at hf
  obtain ⟨hx, hb, hr, hml, hown, hts, hlk, hA⟩ := id B
  refine lv_iload_n hx hb dX2_choose_0 rfl (lv_at hl 2 rfl) ?_
  refine lv_aload_n hx hb dX2_choose_1 rfl (lv_at hl 0 rfl) ?_
  refine x_get B hw (Tb := TX2) inX2 31 (by decide) rfl rfl 4 (by decide) u199 (fun _ h => h) rfl dX2_choose_2 ?_
  refine lv_icmp_ge (tgt := 13) hx hb dX2_choose_5 (by decide) (fun hc => ?_) (fun hc => ?_)
  · have hf := x_pos hc hf
    exact jSpeech_choose_5_b13_ok B x4 S hf hw (lv_sub hl [0, 4] rfl)
  · have hf := x_neg hc hf
    refine lv_iload_n hx hb dX2_choose_8 rfl (lv_at hl 2 rfl) ?_
    refine lv_iconst (v := 3) hx hb dX2_choose_9 (by decide) ?_
    refine lv_icmp_lt (tgt := 20) hx hb dX2_choose_10 (by decide) (fun hc => ?_) (fun hc => ?_)
    · have hf := x_pos hc hf
      refine lv_iload_n hx hb dX2_choose_20 rfl (lv_at hl 3 rfl) ?_
      refine lv_iload_n hx hb dX2_choose_21 rfl (lv_at hl 2 rfl) ?_
      refine lv_ishr hx hb dX2_choose_22 ?_
      refine lv_iconst (v := 1) hx hb dX2_choose_23 (by decide) ?_
      refine lv_iand hx hb dX2_choose_24 ?_
      refine lv_if_ne (tgt := 40) hx hb dX2_choose_25 (by decide) (fun hc => ?_) (fun hc => ?_)
      · have hf := x_neg hc hf
        refine lv_iconst (v := 0) hx hb dX2_choose_40 (by decide) ?_
        refine lv_istore (lv' := [(5, .int 0), (0, .ref (q 31)), (1, .ref (q 14)), (2, .int x2), (3, .int x3), (4, .int x4)]) hx hb dX2_choose_41 hl (by decide) rfl (fun ls hl => ?_)
        exact jSpeech_choose_5_h43_ok B FU x2 x3 x4 0 S _ _ _ hf hw (lv_sub hl [1, 2, 3, 4, 5, 0] rfl)
      · have hf := x_pos hc hf
        refine lv_aload_n hx hb dX2_choose_28 rfl (lv_at hl 0 rfl) ?_
        refine lv_aload_n hx hb dX2_choose_29 rfl (lv_at hl 1 rfl) ?_
        refine lv_iload_n hx hb dX2_choose_30 rfl (lv_at hl 2 rfl) ?_
        refine lv_iconst (v := 1) hx hb dX2_choose_31 (by decide) ?_
        refine lv_iadd hx hb dX2_choose_32 ?_
        refine lv_iload_n hx hb dX2_choose_33 rfl (lv_at hl 3 rfl) ?_
        refine lv_iload hx hb dX2_choose_34 (lv_at hl 4 rfl) ?_
        obtain ⟨S11, hc, hf⟩ := x_bv_some hf
        refine x_callS B ExC_ok hw (As := [.ref (q 31), .ref (q 14), .int (x2 + 1), .int x3, .int x4]) (rest := []) (st1 := []) (jSpeech_choose_4_ok hc) u489 u490 u43 u491 hdX2_choose rfl ⟨Nat.le_of_ble_eq_true rfl, Nat.le_of_ble_eq_true rfl⟩ ⟨rfl, rfl⟩ hl.1 (Nat.le_of_ble_eq_true rfl) dX2_choose_36 (fun H locs hw => ?_) rfl rfl
        exact x_vret B hw hf dX2_choose_39
    · have hf := x_neg hc hf
      exact jSpeech_choose_5_b13_ok B x4 S hf hw (lv_sub hl [0, 4] rfl)

set_option maxHeartbeats 4000000 in
theorem jSpeech_choose_5_ok {x2 : Int32} {x3 : Int32} {x4 : Int32} {S SF : St} (hf : jSpeech_choose_5 x2 x3 x4 S = some SF) : XMet l D 40 (cellC T q) q T (ExC aK aV) yX2_choose cX2_choose 6 none ({ frames := 6, cells := 0, slots := 0, locals := 145 }) [.ref (q 31), .ref (q 14), .int x2, .int x3, .int x4] S none SF := by
  refine x_enter (own := RX2) (by decide +kernel) rfl (Nat.le_of_ble_eq_true rfl) (fun p e s m below meth c A B ls hw hl0 => ?_)
  have hl : lv_has ls 6 [(0, .ref (q 31)), (1, .ref (q 14)), (2, .int x2), (3, .int x3), (4, .int x4)] := hl0
  exact jSpeech_choose_5_b0_ok B x2 x3 x4 S hf hw hl

set_option maxHeartbeats 4000000 in
theorem jSpeech_fewestUnits_b0_ok (B : XB p s m args meth c A cX2_fewestUnits 3 (some .int) RX2) {SF : St} {r : Int32}  (x2 : Int32) (S : St) {H : Heap} {locs : List Loc} {ls : Array Slot} (hf : jSpeech_fewestUnits x2 S = some (r, SF)) (hw : Xw D 40 (cellC T q) q T (ExC aK aV) A s S H locs) (hl : lv_has ls 3 [(0, .ref (q 31)), (1, .ref (q 14)), (2, .int x2)]) : XG p l e ({ frames := 7, cells := 0, slots := 0, locals := 170 }) s m args below meth c D 40 (cellC T q) q T A SF (some (.int r)) H locs 0 ls [] := by
  unfold jSpeech_fewestUnits at hf
  obtain ⟨hx, hb, hr, hml, hown, hts, hlk, hA⟩ := id B
  refine lv_aload_n hx hb dX2_fewestUnits_0 rfl (lv_at hl 0 rfl) ?_
  refine lv_bipush (v := (-9)) hx hb dX2_fewestUnits_1 (by decide) ?_
  refine x_put B hw (Tb := TX2) inX2 tyX2 tyX2_ok nmX2 31 (by decide) rfl rfl 5 (by decide) u201 (fun _ h => h) rfl (ty := .int) (by decide +kernel) rfl rfl (Nat.le_of_ble_eq_true rfl) (S1 := upI S 31 5 (-9)) rfl upI_o (fun _ _ => rfl) dX2_fewestUnits_3 hf (fun S1 H locs hw hf => ?_)
  refine lv_aload_n hx hb dX2_fewestUnits_6 rfl (lv_at hl 0 rfl) ?_
  refine lv_aload_n hx hb dX2_fewestUnits_7 rfl (lv_at hl 1 rfl) ?_
  refine lv_iconst (v := 0) hx hb dX2_fewestUnits_8 (by decide) ?_
  refine lv_iload_n hx hb dX2_fewestUnits_9 rfl (lv_at hl 2 rfl) ?_
  refine lv_iconst (v := 0) hx hb dX2_fewestUnits_10 (by decide) ?_
  obtain ⟨S2, hc, hf⟩ := x_bv_some hf
  refine x_callS B ExC_ok hw (As := [.ref (q 31), .ref (q 14), .int 0, .int x2, .int 0]) (rest := []) (st1 := []) (jSpeech_choose_5_ok hc) u489 u490 u43 u491 hdX2_choose rfl ⟨Nat.le_of_ble_eq_true rfl, Nat.le_of_ble_eq_true rfl⟩ ⟨rfl, rfl⟩ hl.1 (Nat.le_of_ble_eq_true rfl) dX2_fewestUnits_11 (fun H locs hw => ?_) rfl rfl
  refine lv_aload_n hx hb dX2_fewestUnits_14 rfl (lv_at hl 0 rfl) ?_
  refine x_get B hw (Tb := TX2) inX2 31 (by decide) rfl rfl 5 (by decide) u201 (fun _ h => h) rfl dX2_fewestUnits_15 ?_
  exact x_iret B hw hf dX2_fewestUnits_18

set_option maxHeartbeats 4000000 in
theorem jSpeech_fewestUnits_ok {x2 : Int32} {S SF : St} {r : Int32} (hf : jSpeech_fewestUnits x2 S = some (r, SF)) : XMet l D 40 (cellC T q) q T (ExC aK aV) yX2_fewestUnits cX2_fewestUnits 3 (some .int) ({ frames := 7, cells := 0, slots := 0, locals := 170 }) [.ref (q 31), .ref (q 14), .int x2] S (some (.int r)) SF := by
  refine x_enter (own := RX2) (by decide +kernel) rfl (Nat.le_of_ble_eq_true rfl) (fun p e s m below meth c A B ls hw hl0 => ?_)
  have hl : lv_has ls 3 [(0, .ref (q 31)), (1, .ref (q 14)), (2, .int x2)] := hl0
  exact jSpeech_fewestUnits_b0_ok B x2 S hf hw hl

set_option maxHeartbeats 4000000 in
theorem jSmoke_says_b0_ok (B : XB p s m args meth c A cX6_says 7 (some .int) RX6) {SF : St} {r : Int32}  (x1 : Int32) (x2 : Int32) (x3 : Int32) (x4 : Int32) (x5 : Int32) (S : St) {H : Heap} {locs : List Loc} {ls : Array Slot} (hf : jSmoke_says x1 x2 x3 x4 x5 S = some (r, SF)) (hw : Xw D 40 (cellC T q) q T (ExC aK aV) A s S H locs) (hl : lv_has ls 7 [(0, .ref (q 0)), (1, .int x1), (2, .int x2), (3, .int x3), (4, .int x4), (5, .int x5)]) : XG p l e ({ frames := 8, cells := 0, slots := 0, locals := 192 }) s m args below meth c D 40 (cellC T q) q T A SF (some (.int r)) H locs 0 ls [] := by
  unfold jSmoke_says at hf
  obtain ⟨hx, hb, hr, hml, hown, hts, hlk, hA⟩ := id B
  refine lv_aload_n hx hb dX6_says_0 rfl (lv_at hl 0 rfl) ?_
  refine x_get B hw (Tb := TX6) inX6 0 (by decide) rfl rfl 3 (by decide) u233 (fun _ h => h) rfl dX6_says_1 ?_
  refine lv_iload_n hx hb dX6_says_4 rfl (lv_at hl 1 rfl) ?_
  obtain ⟨v2, S1, hc, hf⟩ := x_bd_some hf
  refine x_callV B ExC_ok hw 19 (by decide) rfl rfl (As := [.int x1]) (rest := []) (st1 := [.int v2]) (jSuppers_hasHouse_ok hc) u398 u399 u400 u42 u401 hdX3_hasHouse rfl ⟨Nat.le_of_ble_eq_true rfl, Nat.le_of_ble_eq_true rfl⟩ ⟨rfl, rfl⟩ hl.1 (Nat.le_of_ble_eq_true rfl) dX6_says_5 (fun H locs hw => ?_) rfl rfl
  refine lv_if_eq (tgt := 33) hx hb dX6_says_8 (by decide) (fun hc => ?_) (fun hc => ?_)
  · have hf := x_pos hc hf
    refine lv_iconst (v := (-1)) hx hb dX6_says_33 (by decide) ?_
    exact x_iret B hw hf dX6_says_34
  · have hf := x_neg hc hf
    refine lv_iload_n hx hb dX6_says_11 rfl (lv_at hl 2 rfl) ?_
    refine lv_iload_n hx hb dX6_says_12 rfl (lv_at hl 3 rfl) ?_
    refine lv_iload hx hb dX6_says_13 (lv_at hl 4 rfl) ?_
    obtain ⟨v4, S3, hc, hf⟩ := x_bd_some hf
    refine x_callS B ExC_ok hw (As := [.int x2, .int x3, .int x4]) (rest := []) (st1 := [.int v4]) (jSmoke_isRow_ok hc) u475 u476 u38 u477 hdX6_isRow rfl ⟨Nat.le_of_ble_eq_true rfl, Nat.le_of_ble_eq_true rfl⟩ ⟨rfl, rfl⟩ hl.1 (Nat.le_of_ble_eq_true rfl) dX6_says_15 (fun H locs hw => ?_) rfl rfl
    refine lv_if_eq (tgt := 33) hx hb dX6_says_18 (by decide) (fun hc => ?_) (fun hc => ?_)
    · have hf := x_pos hc hf
      refine lv_iconst (v := (-1)) hx hb dX6_says_33 (by decide) ?_
      exact x_iret B hw hf dX6_says_34
    · have hf := x_neg hc hf
      refine lv_iload hx hb dX6_says_21 (lv_at hl 5 rfl) ?_
      refine lv_iconst (v := (-1)) hx hb dX6_says_23 (by decide) ?_
      refine lv_icmp_lt (tgt := 33) hx hb dX6_says_24 (by decide) (fun hc => ?_) (fun hc => ?_)
      · have hf := x_pos hc hf
        refine lv_iconst (v := (-1)) hx hb dX6_says_33 (by decide) ?_
        exact x_iret B hw hf dX6_says_34
      · have hf := x_neg hc hf
        refine lv_iload hx hb dX6_says_27 (lv_at hl 5 rfl) ?_
        refine lv_iconst (v := 3) hx hb dX6_says_29 (by decide) ?_
        refine lv_icmp_lt (tgt := 35) hx hb dX6_says_30 (by decide) (fun hc => ?_) (fun hc => ?_)
        · have hf := x_pos hc hf
          refine lv_aload_n hx hb dX6_says_35 rfl (lv_at hl 0 rfl) ?_
          refine x_get B hw (Tb := TX6) inX6 0 (by decide) rfl rfl 6 (by decide) u236 (fun _ h => h) rfl dX6_says_36 ?_
          refine lv_iload_n hx hb dX6_says_39 rfl (lv_at hl 2 rfl) ?_
          refine lv_iload_n hx hb dX6_says_40 rfl (lv_at hl 3 rfl) ?_
          refine lv_iload hx hb dX6_says_41 (lv_at hl 4 rfl) ?_
          obtain ⟨S5, hc, hf⟩ := x_bv_some hf
          refine x_callV B ExC_ok hw 31 (by decide) rfl rfl (As := [.int x2, .int x3, .int x4]) (rest := []) (st1 := []) (jSpeech_hear_ok hc) u481 u482 u483 u43 u484 hdX2_hear rfl ⟨Nat.le_of_ble_eq_true rfl, Nat.le_of_ble_eq_true rfl⟩ ⟨rfl, rfl⟩ hl.1 (Nat.le_of_ble_eq_true rfl) dX6_says_43 (fun H locs hw => ?_) rfl rfl
          refine lv_aload_n hx hb dX6_says_46 rfl (lv_at hl 0 rfl) ?_
          refine x_get B hw (Tb := TX6) inX6 0 (by decide) rfl rfl 3 (by decide) u233 (fun _ h => h) rfl dX6_says_47 ?_
          refine lv_iload_n hx hb dX6_says_50 rfl (lv_at hl 1 rfl) ?_
          refine lv_aload_n hx hb dX6_says_51 rfl (lv_at hl 0 rfl) ?_
          refine x_get B hw (Tb := TX6) inX6 0 (by decide) rfl rfl 6 (by decide) u236 (fun _ h => h) rfl dX6_says_52 ?_
          refine x_get B hw (Tb := TX2) inX2 31 (by decide) rfl rfl 3 (by decide) u198 (fun _ h => h) rfl dX6_says_55 ?_
          obtain ⟨S6, hc, hf⟩ := x_bv_some hf
          refine x_callV B ExC_ok hw 19 (by decide) rfl rfl (As := [.int x1, .ref (q 35)]) (rest := []) (st1 := []) (jSuppers_fill_35_ok hc) u431 u432 u433 u42 u434 hdX3_fill rfl ⟨Nat.le_of_ble_eq_true rfl, Nat.le_of_ble_eq_true rfl⟩ ⟨rfl, rfl⟩ hl.1 (Nat.le_of_ble_eq_true rfl) dX6_says_58 (fun H locs hw => ?_) rfl rfl
          refine lv_aload_n hx hb dX6_says_61 rfl (lv_at hl 0 rfl) ?_
          refine x_get B hw (Tb := TX6) inX6 0 (by decide) rfl rfl 6 (by decide) u236 (fun _ h => h) rfl dX6_says_62 ?_
          refine lv_aload_n hx hb dX6_says_65 rfl (lv_at hl 0 rfl) ?_
          refine x_get B hw (Tb := TX6) inX6 0 (by decide) rfl rfl 2 (by decide) u232 (fun _ h => h) rfl dX6_says_66 ?_
          refine lv_bipush (v := 7) hx hb dX6_says_69 (by decide) ?_
          obtain ⟨v8, S7, hc, hf⟩ := x_bd_some hf
          refine x_callV B ExC_ok hw 31 (by decide) rfl rfl (As := [.ref (q 14), .int 7]) (rest := []) (st1 := [.int v8]) (jSpeech_fewestUnits_ok hc) u485 u486 u487 u43 u488 hdX2_fewestUnits rfl ⟨Nat.le_of_ble_eq_true rfl, Nat.le_of_ble_eq_true rfl⟩ ⟨rfl, rfl⟩ hl.1 (Nat.le_of_ble_eq_true rfl) dX6_says_71 (fun H locs hw => ?_) rfl rfl
          refine lv_istore (lv' := [(6, .int v8), (0, .ref (q 0)), (1, .int x1), (2, .int x2), (3, .int x3), (4, .int x4), (5, .int x5)]) hx hb dX6_says_74 hl (by decide) rfl (fun ls hl => ?_)
          refine lv_iload hx hb dX6_says_76 (lv_at hl 0 rfl) ?_
          refine lv_bipush (v := (-9)) hx hb dX6_says_78 (by decide) ?_
          refine lv_icmp_ne (tgt := 86) hx hb dX6_says_80 (by decide) (fun hc => ?_) (fun hc => ?_)
          · have hf := x_neg hc hf
            refine lv_iload hx hb dX6_says_86 (lv_at hl 6 rfl) ?_
            refine lv_if_ge (tgt := 94) hx hb dX6_says_88 (by decide) (fun hc => ?_) (fun hc => ?_)
            · have hf := x_pos hc hf
              refine lv_iload hx hb dX6_says_94 (lv_at hl 6 rfl) ?_
              refine lv_aload_n hx hb dX6_says_96 rfl (lv_at hl 1 rfl) ?_
              refine x_get B hw (Tb := TX6) inX6 0 (by decide) rfl rfl 6 (by decide) u236 (fun _ h => h) rfl dX6_says_97 ?_
              refine x_get B hw (Tb := TX2) inX2 31 (by decide) rfl rfl 4 (by decide) u200 (fun _ h => h) rfl dX6_says_100 ?_
              refine lv_icmp_ge (tgt := 119) hx hb dX6_says_103 (by decide) (fun hc => ?_) (fun hc => ?_)
              · have hf := x_pos hc hf
                refine lv_bipush (v := (-5)) hx hb dX6_says_119 (by decide) ?_
                exact x_iret B hw hf dX6_says_121
              · have hf := x_neg hc hf
                refine lv_aload_n hx hb dX6_says_106 rfl (lv_at hl 1 rfl) ?_
                refine x_get B hw (Tb := TX6) inX6 0 (by decide) rfl rfl 6 (by decide) u236 (fun _ h => h) rfl dX6_says_107 ?_
                refine x_get B hw (Tb := TX2) inX2 31 (by decide) rfl rfl 2 (by decide) u196 (fun _ h => h) rfl dX6_says_110 ?_
                refine lv_iload hx hb dX6_says_113 (lv_at hl 6 rfl) ?_
                refine x_iald B hw 34 (by decide) rfl dX6_says_115 hf (fun v9 hf => ?_)
                refine lv_goto (tgt := 121) hx hb dX6_says_116 (by decide) ?_
                exact x_iret B hw hf dX6_says_121
            · have hf := x_neg hc hf
              refine lv_iload hx hb dX6_says_91 (lv_at hl 0 rfl) ?_
              exact x_iret B hw hf dX6_says_93
          · have hf := x_pos hc hf
            refine lv_bipush (v := (-9)) hx hb dX6_says_83 (by decide) ?_
            exact x_iret B hw hf dX6_says_85
        · have hf := x_neg hc hf
          refine lv_iconst (v := (-1)) hx hb dX6_says_33 (by decide) ?_
          exact x_iret B hw hf dX6_says_34

set_option maxHeartbeats 4000000 in
theorem jSmoke_says_ok {x1 : Int32} {x2 : Int32} {x3 : Int32} {x4 : Int32} {x5 : Int32} {S SF : St} {r : Int32} (hf : jSmoke_says x1 x2 x3 x4 x5 S = some (r, SF)) : XMet l D 40 (cellC T q) q T (ExC aK aV) yX6_says cX6_says 7 (some .int) ({ frames := 8, cells := 0, slots := 0, locals := 192 }) [.ref (q 0), .int x1, .int x2, .int x3, .int x4, .int x5] S (some (.int r)) SF := by
  refine x_enter (own := RX6) (by decide +kernel) rfl (Nat.le_of_ble_eq_true rfl) (fun p e s m below meth c A B ls hw hl0 => ?_)
  have hl : lv_has ls 7 [(0, .ref (q 0)), (1, .int x1), (2, .int x2), (3, .int x3), (4, .int x4), (5, .int x5)] := hl0
  exact jSmoke_says_b0_ok B x1 x2 x3 x4 x5 S hf hw hl

set_option maxHeartbeats 4000000 in
theorem jInt_bitCount_b0_ok (B : XB p s m args meth c A cJ6_bitCount_0f7a4 1 (some .int) RJ6) {SF : St} {r : Int32}  (x0 : Int32) (S : St) {H : Heap} {locs : List Loc} {ls : Array Slot} (hf : jInt_bitCount x0 S = some (r, SF)) (hw : Xw D 40 (cellC T q) q T (ExC aK aV) A s S H locs) (hl : lv_has ls 1 [(0, .int x0)]) : XG p l e ({ frames := 0, cells := 0, slots := 0, locals := 0 }) s m args below meth c D 40 (cellC T q) q T A SF (some (.int r)) H locs 0 ls [] := by
  unfold jInt_bitCount at hf
  obtain ⟨hx, hb, hr, hml, hown, hts, hlk, hA⟩ := id B
  refine lv_iload_n hx hb dJ6_bitCount_0f7a4_0 rfl (lv_at hl 0 rfl) ?_
  refine lv_iload_n hx hb dJ6_bitCount_0f7a4_1 rfl (lv_at hl 0 rfl) ?_
  refine lv_iconst (v := 1) hx hb dJ6_bitCount_0f7a4_2 (by decide) ?_
  refine lv_iushr (v := x_ush x0 1) hx hb dJ6_bitCount_0f7a4_3 rfl ?_
  refine lv_ldcw (v := 1431655765) hx hb hown (hts _ u516) dJ6_bitCount_0f7a4_4 ?_
  refine lv_iand hx hb dJ6_bitCount_0f7a4_7 ?_
  refine lv_isub hx hb dJ6_bitCount_0f7a4_8 ?_
  refine x_leti hf (fun v1 hf => ?_)
  refine lv_istore_n (lv' := [(0, .int v1)]) hx hb dJ6_bitCount_0f7a4_9 rfl hl (by decide) rfl (fun ls hl => ?_)
  refine lv_iload_n hx hb dJ6_bitCount_0f7a4_10 rfl (lv_at hl 0 rfl) ?_
  refine lv_ldcw (v := 858993459) hx hb hown (hts _ u517) dJ6_bitCount_0f7a4_11 ?_
  refine lv_iand hx hb dJ6_bitCount_0f7a4_14 ?_
  refine lv_iload_n hx hb dJ6_bitCount_0f7a4_15 rfl (lv_at hl 0 rfl) ?_
  refine lv_iconst (v := 2) hx hb dJ6_bitCount_0f7a4_16 (by decide) ?_
  refine lv_iushr (v := x_ush v1 2) hx hb dJ6_bitCount_0f7a4_17 rfl ?_
  refine lv_ldcw (v := 858993459) hx hb hown (hts _ u517) dJ6_bitCount_0f7a4_18 ?_
  refine lv_iand hx hb dJ6_bitCount_0f7a4_21 ?_
  refine lv_iadd hx hb dJ6_bitCount_0f7a4_22 ?_
  refine x_leti hf (fun v2 hf => ?_)
  refine lv_istore_n (lv' := [(0, .int v2)]) hx hb dJ6_bitCount_0f7a4_23 rfl hl (by decide) rfl (fun ls hl => ?_)
  refine lv_iload_n hx hb dJ6_bitCount_0f7a4_24 rfl (lv_at hl 0 rfl) ?_
  refine lv_iload_n hx hb dJ6_bitCount_0f7a4_25 rfl (lv_at hl 0 rfl) ?_
  refine lv_iconst (v := 4) hx hb dJ6_bitCount_0f7a4_26 (by decide) ?_
  refine lv_iushr (v := x_ush v2 4) hx hb dJ6_bitCount_0f7a4_27 rfl ?_
  refine lv_iadd hx hb dJ6_bitCount_0f7a4_28 ?_
  refine lv_ldcw (v := 252645135) hx hb hown (hts _ u518) dJ6_bitCount_0f7a4_29 ?_
  refine lv_iand hx hb dJ6_bitCount_0f7a4_32 ?_
  refine x_leti hf (fun v3 hf => ?_)
  refine lv_istore_n (lv' := [(0, .int v3)]) hx hb dJ6_bitCount_0f7a4_33 rfl hl (by decide) rfl (fun ls hl => ?_)
  refine lv_iload_n hx hb dJ6_bitCount_0f7a4_34 rfl (lv_at hl 0 rfl) ?_
  refine lv_iload_n hx hb dJ6_bitCount_0f7a4_35 rfl (lv_at hl 0 rfl) ?_
  refine lv_bipush (v := 8) hx hb dJ6_bitCount_0f7a4_36 (by decide) ?_
  refine lv_iushr (v := x_ush v3 8) hx hb dJ6_bitCount_0f7a4_38 rfl ?_
  refine lv_iadd hx hb dJ6_bitCount_0f7a4_39 ?_
  refine x_leti hf (fun v4 hf => ?_)
  refine lv_istore_n (lv' := [(0, .int v4)]) hx hb dJ6_bitCount_0f7a4_40 rfl hl (by decide) rfl (fun ls hl => ?_)
  refine lv_iload_n hx hb dJ6_bitCount_0f7a4_41 rfl (lv_at hl 0 rfl) ?_
  refine lv_iload_n hx hb dJ6_bitCount_0f7a4_42 rfl (lv_at hl 0 rfl) ?_
  refine lv_bipush (v := 16) hx hb dJ6_bitCount_0f7a4_43 (by decide) ?_
  refine lv_iushr (v := x_ush v4 16) hx hb dJ6_bitCount_0f7a4_45 rfl ?_
  refine lv_iadd hx hb dJ6_bitCount_0f7a4_46 ?_
  refine x_leti hf (fun v5 hf => ?_)
  refine lv_istore_n (lv' := [(0, .int v5)]) hx hb dJ6_bitCount_0f7a4_47 rfl hl (by decide) rfl (fun ls hl => ?_)
  refine lv_iload_n hx hb dJ6_bitCount_0f7a4_48 rfl (lv_at hl 0 rfl) ?_
  refine lv_bipush (v := 63) hx hb dJ6_bitCount_0f7a4_49 (by decide) ?_
  refine lv_iand hx hb dJ6_bitCount_0f7a4_51 ?_
  exact x_iret B hw hf dJ6_bitCount_0f7a4_52

set_option maxHeartbeats 4000000 in
theorem jInt_bitCount_ok {x0 : Int32} {S SF : St} {r : Int32} (hf : jInt_bitCount x0 S = some (r, SF)) : XMet l D 40 (cellC T q) q T (ExC aK aV) yJ6_bitCount_0f7a4 cJ6_bitCount_0f7a4 1 (some .int) ({ frames := 0, cells := 0, slots := 0, locals := 0 }) [.int x0] S (some (.int r)) SF := by
  refine x_enter (own := RJ6) (by decide +kernel) rfl (Nat.le_of_ble_eq_true rfl) (fun p e s m below meth c A B ls hw hl0 => ?_)
  have hl : lv_has ls 1 [(0, .int x0)] := hl0
  exact jInt_bitCount_b0_ok B x0 S hf hw hl

set_option maxHeartbeats 4000000 in
theorem jSpeech_mostPlaces_b30_ok (B : XB p s m args meth c A cX2_mostPlaces 5 (some .int) RX2) {SF : St} {r : Int32} (K4 : Int32 → Int32 → St → Option (Int32 × St)) (hK4 : ∀ (x2 : Int32) (x3 : Int32) (S : St) (H : Heap) (locs : List Loc) (ls : Array Slot), K4 x2 x3 S = some (r, SF) → Xw D 40 (cellC T q) q T (ExC aK aV) A s S H locs → lv_has ls 5 [(0, .ref (q 31)), (1, .ref (q 14)), (2, .int x2), (3, .int x3)] → XG p l e ({ frames := 8, cells := 0, slots := 0, locals := 192 }) s m args below meth c D 40 (cellC T q) q T A SF (some (.int r)) H locs 4 ls [])  (x2 : Int32) (x3 : Int32) (s0 : Int32) (S : St) {H : Heap} {locs : List Loc} {ls : Array Slot} (hf : jSpeech_mostPlaces_b30 K4 x2 x3 s0 S = some (r, SF)) (hw : Xw D 40 (cellC T q) q T (ExC aK aV) A s S H locs) (hl : lv_has ls 5 [(0, .ref (q 31)), (1, .ref (q 14)), (2, .int x2), (3, .int x3)]) : XG p l e ({ frames := 8, cells := 0, slots := 0, locals := 192 }) s m args below meth c D 40 (cellC T q) q T A SF (some (.int r)) H locs 30 ls [.int s0] := by
  unfold jSpeech_mostPlaces_b30 at hf
  obtain ⟨hx, hb, hr, hml, hown, hts, hlk, hA⟩ := id B
  refine lv_istore (lv' := [(4, .int s0), (0, .ref (q 31)), (1, .ref (q 14)), (2, .int x2), (3, .int x3)]) hx hb dX2_mostPlaces_30 hl (by decide) rfl (fun ls hl => ?_)
  refine lv_iload hx hb dX2_mostPlaces_32 (lv_at hl 0 rfl) ?_
  refine lv_if_eq (tgt := 50) hx hb dX2_mostPlaces_34 (by decide) (fun hc => ?_) (fun hc => ?_)
  · have hf := x_pos hc hf
    refine lv_iinc (v := x3 + 1) (lv' := [(3, .int (x3 + 1)), (4, .int s0), (0, .ref (q 31)), (1, .ref (q 14)), (2, .int x2)]) hx hb dX2_mostPlaces_50 hl (k := 4) rfl xi_1 (by decide) rfl (fun ls hl => ?_)
    refine lv_goto (tgt := 4) hx hb dX2_mostPlaces_53 (by decide) ?_
    exact hK4 x2 (x3 + 1) S _ _ _ hf hw (lv_sub hl [2, 3, 4, 0] rfl)
  · have hf := x_neg hc hf
    refine lv_aload_n hx hb dX2_mostPlaces_37 rfl (lv_at hl 1 rfl) ?_
    refine lv_aload_n hx hb dX2_mostPlaces_38 rfl (lv_at hl 2 rfl) ?_
    refine lv_iload_n hx hb dX2_mostPlaces_39 rfl (lv_at hl 4 rfl) ?_
    obtain ⟨v6, S5, hc, hf⟩ := x_bd_some hf
    refine x_callV B ExC_ok hw 31 (by decide) rfl rfl (As := [.ref (q 14), .int x3]) (rest := []) (st1 := [.int v6]) (jSpeech_fewestUnits_ok hc) u519 u486 u487 u43 u488 hdX2_fewestUnits rfl ⟨Nat.le_of_ble_eq_true rfl, Nat.le_of_ble_eq_true rfl⟩ ⟨rfl, rfl⟩ hl.1 (Nat.le_of_ble_eq_true rfl) dX2_mostPlaces_40 (fun H locs hw => ?_) rfl rfl
    refine lv_bipush (v := (-9)) hx hb dX2_mostPlaces_43 (by decide) ?_
    refine lv_icmp_eq (tgt := 50) hx hb dX2_mostPlaces_45 (by decide) (fun hc => ?_) (fun hc => ?_)
    · have hf := x_pos hc hf
      refine lv_iinc (v := x3 + 1) (lv' := [(3, .int (x3 + 1)), (4, .int s0), (0, .ref (q 31)), (1, .ref (q 14)), (2, .int x2)]) hx hb dX2_mostPlaces_50 hl (k := 4) rfl xi_1 (by decide) rfl (fun ls hl => ?_)
      refine lv_goto (tgt := 4) hx hb dX2_mostPlaces_53 (by decide) ?_
      exact hK4 x2 (x3 + 1) S5 _ _ _ hf hw (lv_sub hl [2, 3, 4, 0] rfl)
    · have hf := x_neg hc hf
      refine lv_iload_n hx hb dX2_mostPlaces_48 rfl (lv_at hl 4 rfl) ?_
      refine lv_istore_n (lv' := [(2, .int x3), (4, .int s0), (0, .ref (q 31)), (1, .ref (q 14)), (3, .int x3)]) hx hb dX2_mostPlaces_49 rfl hl (by decide) rfl (fun ls hl => ?_)
      refine lv_iinc (v := x3 + 1) (lv' := [(3, .int (x3 + 1)), (2, .int x3), (4, .int s0), (0, .ref (q 31)), (1, .ref (q 14))]) hx hb dX2_mostPlaces_50 hl (k := 4) rfl xi_1 (by decide) rfl (fun ls hl => ?_)
      refine lv_goto (tgt := 4) hx hb dX2_mostPlaces_53 (by decide) ?_
      exact hK4 x3 (x3 + 1) S5 _ _ _ hf hw (lv_sub hl [3, 4, 1, 0] rfl)

set_option maxHeartbeats 4000000 in
theorem jSpeech_mostPlaces_b4_ok (B : XB p s m args meth c A cX2_mostPlaces 5 (some .int) RX2) {SF : St} {r : Int32} (K4 : Int32 → Int32 → St → Option (Int32 × St)) (hK4 : ∀ (x2 : Int32) (x3 : Int32) (S : St) (H : Heap) (locs : List Loc) (ls : Array Slot), K4 x2 x3 S = some (r, SF) → Xw D 40 (cellC T q) q T (ExC aK aV) A s S H locs → lv_has ls 5 [(0, .ref (q 31)), (1, .ref (q 14)), (2, .int x2), (3, .int x3)] → XG p l e ({ frames := 8, cells := 0, slots := 0, locals := 192 }) s m args below meth c D 40 (cellC T q) q T A SF (some (.int r)) H locs 4 ls [])  (x2 : Int32) (x3 : Int32) (S : St) {H : Heap} {locs : List Loc} {ls : Array Slot} (hf : jSpeech_mostPlaces_b4 K4 x2 x3 S = some (r, SF)) (hw : Xw D 40 (cellC T q) q T (ExC aK aV) A s S H locs) (hl : lv_has ls 5 [(0, .ref (q 31)), (1, .ref (q 14)), (2, .int x2), (3, .int x3)]) : XG p l e ({ frames := 8, cells := 0, slots := 0, locals := 192 }) s m args below meth c D 40 (cellC T q) q T A SF (some (.int r)) H locs 4 ls [] := by
  unfold jSpeech_mostPlaces_b4 at hf
  obtain ⟨hx, hb, hr, hml, hown, hts, hlk, hA⟩ := id B
  refine lv_iload_n hx hb dX2_mostPlaces_4 rfl (lv_at hl 3 rfl) ?_
  refine lv_iconst (v := 1) hx hb dX2_mostPlaces_5 (by decide) ?_
  refine lv_aload_n hx hb dX2_mostPlaces_6 rfl (lv_at hl 0 rfl) ?_
  refine x_get B hw (Tb := TX2) inX2 31 (by decide) rfl rfl 4 (by decide) u199 (fun _ h => h) rfl dX2_mostPlaces_7 ?_
  refine lv_ishl hx hb dX2_mostPlaces_10 ?_
  refine lv_icmp_ge (tgt := 56) hx hb dX2_mostPlaces_11 (by decide) (fun hc => ?_) (fun hc => ?_)
  · have hf := x_pos hc hf
    refine lv_iload_n hx hb dX2_mostPlaces_56 rfl (lv_at hl 2 rfl) ?_
    exact x_iret B hw hf dX2_mostPlaces_57
  · have hf := x_neg hc hf
    refine lv_iload_n hx hb dX2_mostPlaces_14 rfl (lv_at hl 3 rfl) ?_
    obtain ⟨v2, S1, hc, hf⟩ := x_bd_some hf
    refine x_callS B ExC_ok hw (As := [.int x3]) (rest := []) (st1 := [.int v2]) (jInt_bitCount_ok hc) u513 u514 u51 u515 hdJ6_bitCount_0f7a4 rfl ⟨Nat.le_of_ble_eq_true rfl, Nat.le_of_ble_eq_true rfl⟩ ⟨rfl, rfl⟩ hl.1 (Nat.le_of_ble_eq_true rfl) dX2_mostPlaces_15 (fun H locs hw => ?_) rfl rfl
    refine lv_iload_n hx hb dX2_mostPlaces_18 rfl (lv_at hl 2 rfl) ?_
    obtain ⟨v4, S3, hc, hf⟩ := x_bd_some hf
    refine x_callS B ExC_ok hw (As := [.int x2]) (rest := [.int v2]) (st1 := [.int v4, .int v2]) (jInt_bitCount_ok hc) u513 u514 u51 u515 hdJ6_bitCount_0f7a4 rfl ⟨Nat.le_of_ble_eq_true rfl, Nat.le_of_ble_eq_true rfl⟩ ⟨rfl, rfl⟩ hl.1 (Nat.le_of_ble_eq_true rfl) dX2_mostPlaces_19 (fun H locs hw => ?_) rfl rfl
    refine lv_icmp_le (tgt := 29) hx hb dX2_mostPlaces_22 (by decide) (fun hc => ?_) (fun hc => ?_)
    · have hf := x_pos hc hf
      refine lv_iconst (v := 0) hx hb dX2_mostPlaces_29 (by decide) ?_
      exact jSpeech_mostPlaces_b30_ok B K4 hK4 x2 x3 0 S3 hf hw (lv_sub hl [0, 1, 2, 3] rfl)
    · have hf := x_neg hc hf
      refine lv_iconst (v := 1) hx hb dX2_mostPlaces_25 (by decide) ?_
      refine lv_goto (tgt := 30) hx hb dX2_mostPlaces_26 (by decide) ?_
      exact jSpeech_mostPlaces_b30_ok B K4 hK4 x2 x3 1 S3 hf hw (lv_sub hl [0, 1, 2, 3] rfl)

theorem jSpeech_mostPlaces_h4_ok (B : XB p s m args meth c A cX2_mostPlaces 5 (some .int) RX2) {SF : St} {r : Int32} : ∀ (n : Nat) (x2 : Int32) (x3 : Int32) (S : St) (H : Heap) (locs : List Loc) (ls : Array Slot), jSpeech_mostPlaces_h4 n x2 x3 S = some (r, SF) → Xw D 40 (cellC T q) q T (ExC aK aV) A s S H locs → lv_has ls 5 [(0, .ref (q 31)), (1, .ref (q 14)), (2, .int x2), (3, .int x3)] → XG p l e ({ frames := 8, cells := 0, slots := 0, locals := 192 }) s m args below meth c D 40 (cellC T q) q T A SF (some (.int r)) H locs 4 ls [] := by
  intro n
  induction n with
  | zero =>
    intro x2 x3 S H locs ls hf hw hl
    rw [jSpeech_mostPlaces_h4] at hf
    cases hf
  | succ n ih =>
    intro x2 x3 S H locs ls hf hw hl
    rw [jSpeech_mostPlaces_h4] at hf
    exact jSpeech_mostPlaces_b4_ok B (jSpeech_mostPlaces_h4 n) ih x2 x3 S hf hw hl

set_option maxHeartbeats 4000000 in
theorem jSpeech_mostPlaces_b0_ok (B : XB p s m args meth c A cX2_mostPlaces 5 (some .int) RX2) {SF : St} {r : Int32}  (S : St) {H : Heap} {locs : List Loc} {ls : Array Slot} (hf : jSpeech_mostPlaces S = some (r, SF)) (hw : Xw D 40 (cellC T q) q T (ExC aK aV) A s S H locs) (hl : lv_has ls 5 [(0, .ref (q 31)), (1, .ref (q 14))]) : XG p l e ({ frames := 8, cells := 0, slots := 0, locals := 192 }) s m args below meth c D 40 (cellC T q) q T A SF (some (.int r)) H locs 0 ls [] := by
  unfold jSpeech_mostPlaces at hf
  obtain ⟨hx, hb, hr, hml, hown, hts, hlk, hA⟩ := id B
  refine lv_iconst (v := 0) hx hb dX2_mostPlaces_0 (by decide) ?_
  refine lv_istore_n (lv' := [(2, .int 0), (0, .ref (q 31)), (1, .ref (q 14))]) hx hb dX2_mostPlaces_1 rfl hl (by decide) rfl (fun ls hl => ?_)
  refine lv_iconst (v := 1) hx hb dX2_mostPlaces_2 (by decide) ?_
  refine lv_istore_n (lv' := [(3, .int 1), (2, .int 0), (0, .ref (q 31)), (1, .ref (q 14))]) hx hb dX2_mostPlaces_3 rfl hl (by decide) rfl (fun ls hl => ?_)
  exact jSpeech_mostPlaces_h4_ok B FU 0 1 S _ _ _ hf hw (lv_sub hl [2, 3, 1, 0] rfl)

set_option maxHeartbeats 4000000 in
theorem jSpeech_mostPlaces_ok {S SF : St} {r : Int32} (hf : jSpeech_mostPlaces S = some (r, SF)) : XMet l D 40 (cellC T q) q T (ExC aK aV) yX2_mostPlaces cX2_mostPlaces 5 (some .int) ({ frames := 8, cells := 0, slots := 0, locals := 192 }) [.ref (q 31), .ref (q 14)] S (some (.int r)) SF := by
  refine x_enter (own := RX2) (by decide +kernel) rfl (Nat.le_of_ble_eq_true rfl) (fun p e s m below meth c A B ls hw hl0 => ?_)
  have hl : lv_has ls 5 [(0, .ref (q 31)), (1, .ref (q 14))] := hl0
  exact jSpeech_mostPlaces_b0_ok B S hf hw hl

set_option maxHeartbeats 4000000 in
theorem jSmoke_nearest_b0_ok (B : XB p s m args meth c A cX6_nearest 5 (some .int) RX6) {SF : St} {r : Int32}  (x1 : Int32) (x2 : Int32) (x3 : Int32) (x4 : Int32) (S : St) {H : Heap} {locs : List Loc} {ls : Array Slot} (hf : jSmoke_nearest x1 x2 x3 x4 S = some (r, SF)) (hw : Xw D 40 (cellC T q) q T (ExC aK aV) A s S H locs) (hl : lv_has ls 5 [(0, .ref (q 0)), (1, .int x1), (2, .int x2), (3, .int x3), (4, .int x4)]) : XG p l e ({ frames := 9, cells := 0, slots := 0, locals := 216 }) s m args below meth c D 40 (cellC T q) q T A SF (some (.int r)) H locs 0 ls [] := by
  unfold jSmoke_nearest at hf
  obtain ⟨hx, hb, hr, hml, hown, hts, hlk, hA⟩ := id B
  refine lv_aload_n hx hb dX6_nearest_0 rfl (lv_at hl 0 rfl) ?_
  refine x_get B hw (Tb := TX6) inX6 0 (by decide) rfl rfl 3 (by decide) u233 (fun _ h => h) rfl dX6_nearest_1 ?_
  refine lv_iload_n hx hb dX6_nearest_4 rfl (lv_at hl 1 rfl) ?_
  obtain ⟨v2, S1, hc, hf⟩ := x_bd_some hf
  refine x_callV B ExC_ok hw 19 (by decide) rfl rfl (As := [.int x1]) (rest := []) (st1 := [.int v2]) (jSuppers_hasHouse_ok hc) u398 u399 u400 u42 u401 hdX3_hasHouse rfl ⟨Nat.le_of_ble_eq_true rfl, Nat.le_of_ble_eq_true rfl⟩ ⟨rfl, rfl⟩ hl.1 (Nat.le_of_ble_eq_true rfl) dX6_nearest_5 (fun H locs hw => ?_) rfl rfl
  refine lv_if_eq (tgt := 21) hx hb dX6_nearest_8 (by decide) (fun hc => ?_) (fun hc => ?_)
  · have hf := x_pos hc hf
    refine lv_iconst (v := (-1)) hx hb dX6_nearest_21 (by decide) ?_
    exact x_iret B hw hf dX6_nearest_22
  · have hf := x_neg hc hf
    refine lv_iload_n hx hb dX6_nearest_11 rfl (lv_at hl 2 rfl) ?_
    refine lv_iload_n hx hb dX6_nearest_12 rfl (lv_at hl 3 rfl) ?_
    refine lv_iload hx hb dX6_nearest_13 (lv_at hl 4 rfl) ?_
    obtain ⟨v4, S3, hc, hf⟩ := x_bd_some hf
    refine x_callS B ExC_ok hw (As := [.int x2, .int x3, .int x4]) (rest := []) (st1 := [.int v4]) (jSmoke_isRow_ok hc) u475 u476 u38 u477 hdX6_isRow rfl ⟨Nat.le_of_ble_eq_true rfl, Nat.le_of_ble_eq_true rfl⟩ ⟨rfl, rfl⟩ hl.1 (Nat.le_of_ble_eq_true rfl) dX6_nearest_15 (fun H locs hw => ?_) rfl rfl
    refine lv_if_ne (tgt := 23) hx hb dX6_nearest_18 (by decide) (fun hc => ?_) (fun hc => ?_)
    · have hf := x_neg hc hf
      refine lv_aload_n hx hb dX6_nearest_23 rfl (lv_at hl 0 rfl) ?_
      refine x_get B hw (Tb := TX6) inX6 0 (by decide) rfl rfl 6 (by decide) u236 (fun _ h => h) rfl dX6_nearest_24 ?_
      refine lv_iload_n hx hb dX6_nearest_27 rfl (lv_at hl 2 rfl) ?_
      refine lv_iload_n hx hb dX6_nearest_28 rfl (lv_at hl 3 rfl) ?_
      refine lv_iload hx hb dX6_nearest_29 (lv_at hl 4 rfl) ?_
      obtain ⟨S5, hc, hf⟩ := x_bv_some hf
      refine x_callV B ExC_ok hw 31 (by decide) rfl rfl (As := [.int x2, .int x3, .int x4]) (rest := []) (st1 := []) (jSpeech_hear_ok hc) u481 u482 u483 u43 u484 hdX2_hear rfl ⟨Nat.le_of_ble_eq_true rfl, Nat.le_of_ble_eq_true rfl⟩ ⟨rfl, rfl⟩ hl.1 (Nat.le_of_ble_eq_true rfl) dX6_nearest_31 (fun H locs hw => ?_) rfl rfl
      refine lv_aload_n hx hb dX6_nearest_34 rfl (lv_at hl 0 rfl) ?_
      refine x_get B hw (Tb := TX6) inX6 0 (by decide) rfl rfl 3 (by decide) u233 (fun _ h => h) rfl dX6_nearest_35 ?_
      refine lv_iload_n hx hb dX6_nearest_38 rfl (lv_at hl 1 rfl) ?_
      refine lv_aload_n hx hb dX6_nearest_39 rfl (lv_at hl 0 rfl) ?_
      refine x_get B hw (Tb := TX6) inX6 0 (by decide) rfl rfl 6 (by decide) u236 (fun _ h => h) rfl dX6_nearest_40 ?_
      refine x_get B hw (Tb := TX2) inX2 31 (by decide) rfl rfl 3 (by decide) u198 (fun _ h => h) rfl dX6_nearest_43 ?_
      obtain ⟨S6, hc, hf⟩ := x_bv_some hf
      refine x_callV B ExC_ok hw 19 (by decide) rfl rfl (As := [.int x1, .ref (q 35)]) (rest := []) (st1 := []) (jSuppers_fill_35_ok hc) u431 u432 u433 u42 u434 hdX3_fill rfl ⟨Nat.le_of_ble_eq_true rfl, Nat.le_of_ble_eq_true rfl⟩ ⟨rfl, rfl⟩ hl.1 (Nat.le_of_ble_eq_true rfl) dX6_nearest_46 (fun H locs hw => ?_) rfl rfl
      refine lv_aload_n hx hb dX6_nearest_49 rfl (lv_at hl 0 rfl) ?_
      refine x_get B hw (Tb := TX6) inX6 0 (by decide) rfl rfl 6 (by decide) u236 (fun _ h => h) rfl dX6_nearest_50 ?_
      refine lv_aload_n hx hb dX6_nearest_53 rfl (lv_at hl 0 rfl) ?_
      refine x_get B hw (Tb := TX6) inX6 0 (by decide) rfl rfl 2 (by decide) u232 (fun _ h => h) rfl dX6_nearest_54 ?_
      obtain ⟨v8, S7, hc, hf⟩ := x_bd_some hf
      refine x_callV B ExC_ok hw 31 (by decide) rfl rfl (As := [.ref (q 14)]) (rest := []) (st1 := [.int v8]) (jSpeech_mostPlaces_ok hc) u509 u510 u511 u43 u512 hdX2_mostPlaces rfl ⟨Nat.le_of_ble_eq_true rfl, Nat.le_of_ble_eq_true rfl⟩ ⟨rfl, rfl⟩ hl.1 (Nat.le_of_ble_eq_true rfl) dX6_nearest_57 (fun H locs hw => ?_) rfl rfl
      exact x_iret B hw hf dX6_nearest_60
    · have hf := x_pos hc hf
      refine lv_iconst (v := (-1)) hx hb dX6_nearest_21 (by decide) ?_
      exact x_iret B hw hf dX6_nearest_22

set_option maxHeartbeats 4000000 in
theorem jSmoke_nearest_ok {x1 : Int32} {x2 : Int32} {x3 : Int32} {x4 : Int32} {S SF : St} {r : Int32} (hf : jSmoke_nearest x1 x2 x3 x4 S = some (r, SF)) : XMet l D 40 (cellC T q) q T (ExC aK aV) yX6_nearest cX6_nearest 5 (some .int) ({ frames := 9, cells := 0, slots := 0, locals := 216 }) [.ref (q 0), .int x1, .int x2, .int x3, .int x4] S (some (.int r)) SF := by
  refine x_enter (own := RX6) (by decide +kernel) rfl (Nat.le_of_ble_eq_true rfl) (fun p e s m below meth c A B ls hw hl0 => ?_)
  have hl : lv_has ls 5 [(0, .ref (q 0)), (1, .int x1), (2, .int x2), (3, .int x3), (4, .int x4)] := hl0
  exact jSmoke_nearest_b0_ok B x1 x2 x3 x4 S hf hw hl

set_option maxHeartbeats 4000000 in
theorem jSmoke_isSmoke_b0_ok (B : XB p s m args meth c A cX6_isSmoke 1 (some .boolean) RX6) {SF : St} {r : Int32}  (x0 : Int32) (S : St) {H : Heap} {locs : List Loc} {ls : Array Slot} (hf : jSmoke_isSmoke x0 S = some (r, SF)) (hw : Xw D 40 (cellC T q) q T (ExC aK aV) A s S H locs) (hl : lv_has ls 1 [(0, .int x0)]) : XG p l e ({ frames := 0, cells := 0, slots := 0, locals := 0 }) s m args below meth c D 40 (cellC T q) q T A SF (some (.int r)) H locs 0 ls [] := by
  unfold jSmoke_isSmoke at hf
  obtain ⟨hx, hb, hr, hml, hown, hts, hlk, hA⟩ := id B
  refine lv_iload_n hx hb dX6_isSmoke_0 rfl (lv_at hl 0 rfl) ?_
  refine lv_if_lt (tgt := 14) hx hb dX6_isSmoke_1 (by decide) (fun hc => ?_) (fun hc => ?_)
  · have hf := x_pos hc hf
    refine lv_iconst (v := 0) hx hb dX6_isSmoke_14 (by decide) ?_
    exact x_zret B hw hf dX6_isSmoke_15
  · have hf := x_neg hc hf
    refine lv_iload_n hx hb dX6_isSmoke_4 rfl (lv_at hl 0 rfl) ?_
    refine lv_bipush (v := 8) hx hb dX6_isSmoke_5 (by decide) ?_
    refine lv_icmp_ge (tgt := 14) hx hb dX6_isSmoke_7 (by decide) (fun hc => ?_) (fun hc => ?_)
    · have hf := x_pos hc hf
      refine lv_iconst (v := 0) hx hb dX6_isSmoke_14 (by decide) ?_
      exact x_zret B hw hf dX6_isSmoke_15
    · have hf := x_neg hc hf
      refine lv_iconst (v := 1) hx hb dX6_isSmoke_10 (by decide) ?_
      refine lv_goto (tgt := 15) hx hb dX6_isSmoke_11 (by decide) ?_
      exact x_zret B hw hf dX6_isSmoke_15

set_option maxHeartbeats 4000000 in
theorem jSmoke_isSmoke_ok {x0 : Int32} {S SF : St} {r : Int32} (hf : jSmoke_isSmoke x0 S = some (r, SF)) : XMet l D 40 (cellC T q) q T (ExC aK aV) yX6_isSmoke cX6_isSmoke 1 (some .boolean) ({ frames := 0, cells := 0, slots := 0, locals := 0 }) [.int x0] S (some (.int r)) SF := by
  refine x_enter (own := RX6) (by decide +kernel) rfl (Nat.le_of_ble_eq_true rfl) (fun p e s m below meth c A B ls hw hl0 => ?_)
  have hl : lv_has ls 1 [(0, .int x0)] := hl0
  exact jSmoke_isSmoke_b0_ok B x0 S hf hw hl

set_option maxHeartbeats 4000000 in
theorem jSuppers_thousandths_b27_ok (B : XB p s m args meth c A cX3_thousandths 6 (some .int) RX3) {SF : St} {r : Int32} (K5 : Int32 → Int32 → Int32 → Int32 → St → Option (Int32 × St)) (hK5 : ∀ (x1 : Int32) (x2 : Int32) (x3 : Int32) (x4 : Int32) (S : St) (H : Heap) (locs : List Loc) (ls : Array Slot), K5 x1 x2 x3 x4 S = some (r, SF) → Xw D 40 (cellC T q) q T (ExC aK aV) A s S H locs → lv_has ls 6 [(0, .ref (q 19)), (1, .int x1), (2, .int x2), (3, .int x3), (4, .int x4)] → XG p l e ({ frames := 0, cells := 0, slots := 0, locals := 0 }) s m args below meth c D 40 (cellC T q) q T A SF (some (.int r)) H locs 5 ls [])  (x1 : Int32) (x2 : Int32) (x3 : Int32) (x4 : Int32) (s0 : Int32) (S : St) {H : Heap} {locs : List Loc} {ls : Array Slot} (hf : jSuppers_thousandths_b27 K5 x1 x2 x3 x4 s0 S = some (r, SF)) (hw : Xw D 40 (cellC T q) q T (ExC aK aV) A s S H locs) (hl : lv_has ls 6 [(0, .ref (q 19)), (1, .int x1), (2, .int x2), (3, .int x3), (4, .int x4)]) : XG p l e ({ frames := 0, cells := 0, slots := 0, locals := 0 }) s m args below meth c D 40 (cellC T q) q T A SF (some (.int r)) H locs 27 ls [.int s0] := by
  unfold jSuppers_thousandths_b27 at hf
  obtain ⟨hx, hb, hr, hml, hown, hts, hlk, hA⟩ := id B
  refine lv_istore (lv' := [(5, .int s0), (0, .ref (q 19)), (1, .int x1), (2, .int x2), (3, .int x3), (4, .int x4)]) hx hb dX3_thousandths_27 hl (by decide) rfl (fun ls hl => ?_)
  refine lv_iload_n hx hb dX3_thousandths_29 rfl (lv_at hl 4 rfl) ?_
  refine lv_iload hx hb dX3_thousandths_30 (lv_at hl 0 rfl) ?_
  refine lv_if_eq (tgt := 42) hx hb dX3_thousandths_32 (by decide) (fun hc => ?_) (fun hc => ?_)
  · have hf := x_pos hc hf
    refine lv_bipush (v := 10) hx hb dX3_thousandths_42 (by decide) ?_
    refine lv_aload_n hx hb dX3_thousandths_44 rfl (lv_at hl 1 rfl) ?_
    refine x_get B hw (Tb := TX3) inX3 19 (by decide) rfl rfl 5 (by decide) u144 (fun _ h => h) rfl dX3_thousandths_45 ?_
    refine lv_isub hx hb dX3_thousandths_48 ?_
    refine lv_imul hx hb dX3_thousandths_49 ?_
    refine x_leti hf (fun v1 hf => ?_)
    refine lv_istore_n (lv' := [(3, .int v1), (5, .int s0), (0, .ref (q 19)), (1, .int x1), (2, .int x2), (4, .int x4)]) hx hb dX3_thousandths_50 rfl hl (by decide) rfl (fun ls hl => ?_)
    refine lv_iinc (v := x4 + 1) (lv' := [(4, .int (x4 + 1)), (3, .int v1), (5, .int s0), (0, .ref (q 19)), (1, .int x1), (2, .int x2)]) hx hb dX3_thousandths_51 hl (k := 5) rfl xi_1 (by decide) rfl (fun ls hl => ?_)
    refine lv_goto (tgt := 5) hx hb dX3_thousandths_54 (by decide) ?_
    exact hK5 x1 x2 v1 (x4 + 1) S _ _ _ hf hw (lv_sub hl [3, 4, 5, 1, 0] rfl)
  · have hf := x_neg hc hf
    refine lv_aload_n hx hb dX3_thousandths_35 rfl (lv_at hl 1 rfl) ?_
    refine x_get B hw (Tb := TX3) inX3 19 (by decide) rfl rfl 5 (by decide) u144 (fun _ h => h) rfl dX3_thousandths_36 ?_
    refine lv_goto (tgt := 49) hx hb dX3_thousandths_39 (by decide) ?_
    refine lv_imul hx hb dX3_thousandths_49 ?_
    refine x_leti hf (fun v2 hf => ?_)
    refine lv_istore_n (lv' := [(3, .int v2), (5, .int s0), (0, .ref (q 19)), (1, .int x1), (2, .int x2), (4, .int x4)]) hx hb dX3_thousandths_50 rfl hl (by decide) rfl (fun ls hl => ?_)
    refine lv_iinc (v := x4 + 1) (lv' := [(4, .int (x4 + 1)), (3, .int v2), (5, .int s0), (0, .ref (q 19)), (1, .int x1), (2, .int x2)]) hx hb dX3_thousandths_51 hl (k := 5) rfl xi_1 (by decide) rfl (fun ls hl => ?_)
    refine lv_goto (tgt := 5) hx hb dX3_thousandths_54 (by decide) ?_
    exact hK5 x1 x2 v2 (x4 + 1) S _ _ _ hf hw (lv_sub hl [3, 4, 5, 1, 0] rfl)

set_option maxHeartbeats 4000000 in
theorem jSuppers_thousandths_b5_ok (B : XB p s m args meth c A cX3_thousandths 6 (some .int) RX3) {SF : St} {r : Int32} (K5 : Int32 → Int32 → Int32 → Int32 → St → Option (Int32 × St)) (hK5 : ∀ (x1 : Int32) (x2 : Int32) (x3 : Int32) (x4 : Int32) (S : St) (H : Heap) (locs : List Loc) (ls : Array Slot), K5 x1 x2 x3 x4 S = some (r, SF) → Xw D 40 (cellC T q) q T (ExC aK aV) A s S H locs → lv_has ls 6 [(0, .ref (q 19)), (1, .int x1), (2, .int x2), (3, .int x3), (4, .int x4)] → XG p l e ({ frames := 0, cells := 0, slots := 0, locals := 0 }) s m args below meth c D 40 (cellC T q) q T A SF (some (.int r)) H locs 5 ls [])  (x1 : Int32) (x2 : Int32) (x3 : Int32) (x4 : Int32) (S : St) {H : Heap} {locs : List Loc} {ls : Array Slot} (hf : jSuppers_thousandths_b5 K5 x1 x2 x3 x4 S = some (r, SF)) (hw : Xw D 40 (cellC T q) q T (ExC aK aV) A s S H locs) (hl : lv_has ls 6 [(0, .ref (q 19)), (1, .int x1), (2, .int x2), (3, .int x3), (4, .int x4)]) : XG p l e ({ frames := 0, cells := 0, slots := 0, locals := 0 }) s m args below meth c D 40 (cellC T q) q T A SF (some (.int r)) H locs 5 ls [] := by
  unfold jSuppers_thousandths_b5 at hf
  obtain ⟨hx, hb, hr, hml, hown, hts, hlk, hA⟩ := id B
  refine lv_iload hx hb dX3_thousandths_5 (lv_at hl 4 rfl) ?_
  refine lv_iconst (v := 3) hx hb dX3_thousandths_7 (by decide) ?_
  refine lv_icmp_ge (tgt := 57) hx hb dX3_thousandths_8 (by decide) (fun hc => ?_) (fun hc => ?_)
  · have hf := x_pos hc hf
    refine lv_iload_n hx hb dX3_thousandths_57 rfl (lv_at hl 3 rfl) ?_
    exact x_iret B hw hf dX3_thousandths_58
  · have hf := x_neg hc hf
    refine lv_iload_n hx hb dX3_thousandths_11 rfl (lv_at hl 1 rfl) ?_
    refine lv_iload_n hx hb dX3_thousandths_12 rfl (lv_at hl 2 rfl) ?_
    refine lv_ixor hx hb dX3_thousandths_13 ?_
    refine lv_iload hx hb dX3_thousandths_14 (lv_at hl 4 rfl) ?_
    refine lv_ishr hx hb dX3_thousandths_16 ?_
    refine lv_iconst (v := 1) hx hb dX3_thousandths_17 (by decide) ?_
    refine lv_iand hx hb dX3_thousandths_18 ?_
    refine lv_if_eq (tgt := 26) hx hb dX3_thousandths_19 (by decide) (fun hc => ?_) (fun hc => ?_)
    · have hf := x_pos hc hf
      refine lv_iconst (v := 0) hx hb dX3_thousandths_26 (by decide) ?_
      exact jSuppers_thousandths_b27_ok B K5 hK5 x1 x2 x3 x4 0 S hf hw (lv_sub hl [0, 1, 2, 3, 4] rfl)
    · have hf := x_neg hc hf
      refine lv_iconst (v := 1) hx hb dX3_thousandths_22 (by decide) ?_
      refine lv_goto (tgt := 27) hx hb dX3_thousandths_23 (by decide) ?_
      exact jSuppers_thousandths_b27_ok B K5 hK5 x1 x2 x3 x4 1 S hf hw (lv_sub hl [0, 1, 2, 3, 4] rfl)

theorem jSuppers_thousandths_h5_ok (B : XB p s m args meth c A cX3_thousandths 6 (some .int) RX3) {SF : St} {r : Int32} : ∀ (n : Nat) (x1 : Int32) (x2 : Int32) (x3 : Int32) (x4 : Int32) (S : St) (H : Heap) (locs : List Loc) (ls : Array Slot), jSuppers_thousandths_h5 n x1 x2 x3 x4 S = some (r, SF) → Xw D 40 (cellC T q) q T (ExC aK aV) A s S H locs → lv_has ls 6 [(0, .ref (q 19)), (1, .int x1), (2, .int x2), (3, .int x3), (4, .int x4)] → XG p l e ({ frames := 0, cells := 0, slots := 0, locals := 0 }) s m args below meth c D 40 (cellC T q) q T A SF (some (.int r)) H locs 5 ls [] := by
  intro n
  induction n with
  | zero =>
    intro x1 x2 x3 x4 S H locs ls hf hw hl
    rw [jSuppers_thousandths_h5] at hf
    cases hf
  | succ n ih =>
    intro x1 x2 x3 x4 S H locs ls hf hw hl
    rw [jSuppers_thousandths_h5] at hf
    exact jSuppers_thousandths_b5_ok B (jSuppers_thousandths_h5 n) ih x1 x2 x3 x4 S hf hw hl

set_option maxHeartbeats 4000000 in
theorem jSuppers_thousandths_b0_ok (B : XB p s m args meth c A cX3_thousandths 6 (some .int) RX3) {SF : St} {r : Int32}  (x1 : Int32) (x2 : Int32) (S : St) {H : Heap} {locs : List Loc} {ls : Array Slot} (hf : jSuppers_thousandths x1 x2 S = some (r, SF)) (hw : Xw D 40 (cellC T q) q T (ExC aK aV) A s S H locs) (hl : lv_has ls 6 [(0, .ref (q 19)), (1, .int x1), (2, .int x2)]) : XG p l e ({ frames := 0, cells := 0, slots := 0, locals := 0 }) s m args below meth c D 40 (cellC T q) q T A SF (some (.int r)) H locs 0 ls [] := by
  unfold jSuppers_thousandths at hf
  obtain ⟨hx, hb, hr, hml, hown, hts, hlk, hA⟩ := id B
  refine lv_iconst (v := 1) hx hb dX3_thousandths_0 (by decide) ?_
  refine lv_istore_n (lv' := [(3, .int 1), (0, .ref (q 19)), (1, .int x1), (2, .int x2)]) hx hb dX3_thousandths_1 rfl hl (by decide) rfl (fun ls hl => ?_)
  refine lv_iconst (v := 0) hx hb dX3_thousandths_2 (by decide) ?_
  refine lv_istore (lv' := [(4, .int 0), (3, .int 1), (0, .ref (q 19)), (1, .int x1), (2, .int x2)]) hx hb dX3_thousandths_3 hl (by decide) rfl (fun ls hl => ?_)
  exact jSuppers_thousandths_h5_ok B FU x1 x2 1 0 S _ _ _ hf hw (lv_sub hl [2, 3, 4, 1, 0] rfl)

set_option maxHeartbeats 4000000 in
theorem jSuppers_thousandths_ok {x1 : Int32} {x2 : Int32} {S SF : St} {r : Int32} (hf : jSuppers_thousandths x1 x2 S = some (r, SF)) : XMet l D 40 (cellC T q) q T (ExC aK aV) yX3_thousandths cX3_thousandths 6 (some .int) ({ frames := 0, cells := 0, slots := 0, locals := 0 }) [.ref (q 19), .int x1, .int x2] S (some (.int r)) SF := by
  refine x_enter (own := RX3) (by decide +kernel) rfl (Nat.le_of_ble_eq_true rfl) (fun p e s m below meth c A B ls hw hl0 => ?_)
  have hl : lv_has ls 6 [(0, .ref (q 19)), (1, .int x1), (2, .int x2)] := hl0
  exact jSuppers_thousandths_b0_ok B x1 x2 S hf hw hl

set_option maxHeartbeats 4000000 in
theorem jSmoke_reads_b0_ok (B : XB p s m args meth c A cX6_reads 3 (some .int) RX6) {SF : St} {r : Int32}  (x1 : Int32) (x2 : Int32) (S : St) {H : Heap} {locs : List Loc} {ls : Array Slot} (hf : jSmoke_reads x1 x2 S = some (r, SF)) (hw : Xw D 40 (cellC T q) q T (ExC aK aV) A s S H locs) (hl : lv_has ls 3 [(0, .ref (q 0)), (1, .int x1), (2, .int x2)]) : XG p l e ({ frames := 1, cells := 0, slots := 0, locals := 25 }) s m args below meth c D 40 (cellC T q) q T A SF (some (.int r)) H locs 0 ls [] := by
  unfold jSmoke_reads at hf
  obtain ⟨hx, hb, hr, hml, hown, hts, hlk, hA⟩ := id B
  refine lv_iload_n hx hb dX6_reads_0 rfl (lv_at hl 1 rfl) ?_
  obtain ⟨v2, S1, hc, hf⟩ := x_bd_some hf
  refine x_callS B ExC_ok hw (As := [.int x1]) (rest := []) (st1 := [.int v2]) (jSmoke_isSmoke_ok hc) u524 u525 u38 u526 hdX6_isSmoke rfl ⟨Nat.le_of_ble_eq_true rfl, Nat.le_of_ble_eq_true rfl⟩ ⟨rfl, rfl⟩ hl.1 (Nat.le_of_ble_eq_true rfl) dX6_reads_1 (fun H locs hw => ?_) rfl rfl
  refine lv_if_eq (tgt := 14) hx hb dX6_reads_4 (by decide) (fun hc => ?_) (fun hc => ?_)
  · have hf := x_pos hc hf
    refine lv_iconst (v := (-1)) hx hb dX6_reads_14 (by decide) ?_
    exact x_iret B hw hf dX6_reads_15
  · have hf := x_neg hc hf
    refine lv_iload_n hx hb dX6_reads_7 rfl (lv_at hl 2 rfl) ?_
    obtain ⟨v4, S3, hc, hf⟩ := x_bd_some hf
    refine x_callS B ExC_ok hw (As := [.int x2]) (rest := []) (st1 := [.int v4]) (jSmoke_isSmoke_ok hc) u524 u525 u38 u526 hdX6_isSmoke rfl ⟨Nat.le_of_ble_eq_true rfl, Nat.le_of_ble_eq_true rfl⟩ ⟨rfl, rfl⟩ hl.1 (Nat.le_of_ble_eq_true rfl) dX6_reads_8 (fun H locs hw => ?_) rfl rfl
    refine lv_if_ne (tgt := 16) hx hb dX6_reads_11 (by decide) (fun hc => ?_) (fun hc => ?_)
    · have hf := x_neg hc hf
      refine lv_aload_n hx hb dX6_reads_16 rfl (lv_at hl 0 rfl) ?_
      refine x_get B hw (Tb := TX6) inX6 0 (by decide) rfl rfl 3 (by decide) u233 (fun _ h => h) rfl dX6_reads_17 ?_
      refine lv_iload_n hx hb dX6_reads_20 rfl (lv_at hl 1 rfl) ?_
      refine lv_iload_n hx hb dX6_reads_21 rfl (lv_at hl 2 rfl) ?_
      obtain ⟨v6, S5, hc, hf⟩ := x_bd_some hf
      refine x_callV B ExC_ok hw 19 (by decide) rfl rfl (As := [.int x1, .int x2]) (rest := []) (st1 := [.int v6]) (jSuppers_thousandths_ok hc) u527 u528 u529 u42 u530 hdX3_thousandths rfl ⟨Nat.le_of_ble_eq_true rfl, Nat.le_of_ble_eq_true rfl⟩ ⟨rfl, rfl⟩ hl.1 (Nat.le_of_ble_eq_true rfl) dX6_reads_22 (fun H locs hw => ?_) rfl rfl
      exact x_iret B hw hf dX6_reads_25
    · have hf := x_pos hc hf
      refine lv_iconst (v := (-1)) hx hb dX6_reads_14 (by decide) ?_
      exact x_iret B hw hf dX6_reads_15

set_option maxHeartbeats 4000000 in
theorem jSmoke_reads_ok {x1 : Int32} {x2 : Int32} {S SF : St} {r : Int32} (hf : jSmoke_reads x1 x2 S = some (r, SF)) : XMet l D 40 (cellC T q) q T (ExC aK aV) yX6_reads cX6_reads 3 (some .int) ({ frames := 1, cells := 0, slots := 0, locals := 25 }) [.ref (q 0), .int x1, .int x2] S (some (.int r)) SF := by
  refine x_enter (own := RX6) (by decide +kernel) rfl (Nat.le_of_ble_eq_true rfl) (fun p e s m below meth c A B ls hw hl0 => ?_)
  have hl : lv_has ls 3 [(0, .ref (q 0)), (1, .int x1), (2, .int x2)] := hl0
  exact jSmoke_reads_b0_ok B x1 x2 S hf hw hl

set_option maxHeartbeats 4000000 in
theorem jMenu_meaning_b2_ok (B : XB p s m args meth c A cX1_meaning 3 (some .int) RX1) {SF : St} {r : Int32} (K2 : Int32 → Int32 → St → Option (Int32 × St)) (hK2 : ∀ (x1 : Int32) (x2 : Int32) (S : St) (H : Heap) (locs : List Loc) (ls : Array Slot), K2 x1 x2 S = some (r, SF) → Xw D 40 (cellC T q) q T (ExC aK aV) A s S H locs → lv_has ls 3 [(0, .ref (q 14)), (1, .int x1), (2, .int x2)] → XG p l e ({ frames := 0, cells := 0, slots := 0, locals := 0 }) s m args below meth c D 40 (cellC T q) q T A SF (some (.int r)) H locs 2 ls [])  (x1 : Int32) (x2 : Int32) (S : St) {H : Heap} {locs : List Loc} {ls : Array Slot} (hf : jMenu_meaning_b2 K2 x1 x2 S = some (r, SF)) (hw : Xw D 40 (cellC T q) q T (ExC aK aV) A s S H locs) (hl : lv_has ls 3 [(0, .ref (q 14)), (1, .int x1), (2, .int x2)]) : XG p l e ({ frames := 0, cells := 0, slots := 0, locals := 0 }) s m args below meth c D 40 (cellC T q) q T A SF (some (.int r)) H locs 2 ls [] := by
  unfold jMenu_meaning_b2 at hf
  obtain ⟨hx, hb, hr, hml, hown, hts, hlk, hA⟩ := id B
  refine lv_iload_n hx hb dX1_meaning_2 rfl (lv_at hl 2 rfl) ?_
  refine lv_aload_n hx hb dX1_meaning_3 rfl (lv_at hl 0 rfl) ?_
  refine x_get B hw (Tb := TX1) inX1 14 (by decide) rfl rfl 4 (by decide) u112 (fun _ h => h) rfl dX1_meaning_4 ?_
  refine lv_icmp_ge (tgt := 33) hx hb dX1_meaning_7 (by decide) (fun hc => ?_) (fun hc => ?_)
  · have hf := x_pos hc hf
    refine lv_bipush (v := (-9)) hx hb dX1_meaning_33 (by decide) ?_
    exact x_iret B hw hf dX1_meaning_35
  · have hf := x_neg hc hf
    refine lv_aload_n hx hb dX1_meaning_10 rfl (lv_at hl 0 rfl) ?_
    refine x_get B hw (Tb := TX1) inX1 14 (by decide) rfl rfl 2 (by decide) u106 (fun _ h => h) rfl dX1_meaning_11 ?_
    refine lv_iload_n hx hb dX1_meaning_14 rfl (lv_at hl 2 rfl) ?_
    refine x_iald B hw 17 (by decide) rfl dX1_meaning_15 hf (fun v1 hf => ?_)
    refine lv_iload_n hx hb dX1_meaning_16 rfl (lv_at hl 1 rfl) ?_
    refine lv_icmp_ne (tgt := 27) hx hb dX1_meaning_17 (by decide) (fun hc => ?_) (fun hc => ?_)
    · have hf := x_neg hc hf
      refine lv_iinc (v := x2 + 1) (lv' := [(2, .int (x2 + 1)), (0, .ref (q 14)), (1, .int x1)]) hx hb dX1_meaning_27 hl (k := 2) rfl xi_1 (by decide) rfl (fun ls hl => ?_)
      refine lv_goto (tgt := 2) hx hb dX1_meaning_30 (by decide) ?_
      exact hK2 x1 (x2 + 1) S _ _ _ hf hw (lv_sub hl [1, 2, 0] rfl)
    · have hf := x_pos hc hf
      refine lv_aload_n hx hb dX1_meaning_20 rfl (lv_at hl 0 rfl) ?_
      refine x_get B hw (Tb := TX1) inX1 14 (by decide) rfl rfl 3 (by decide) u109 (fun _ h => h) rfl dX1_meaning_21 ?_
      refine lv_iload_n hx hb dX1_meaning_24 rfl (lv_at hl 2 rfl) ?_
      refine x_iald B hw 18 (by decide) rfl dX1_meaning_25 hf (fun v2 hf => ?_)
      exact x_iret B hw hf dX1_meaning_26

theorem jMenu_meaning_h2_ok (B : XB p s m args meth c A cX1_meaning 3 (some .int) RX1) {SF : St} {r : Int32} : ∀ (n : Nat) (x1 : Int32) (x2 : Int32) (S : St) (H : Heap) (locs : List Loc) (ls : Array Slot), jMenu_meaning_h2 n x1 x2 S = some (r, SF) → Xw D 40 (cellC T q) q T (ExC aK aV) A s S H locs → lv_has ls 3 [(0, .ref (q 14)), (1, .int x1), (2, .int x2)] → XG p l e ({ frames := 0, cells := 0, slots := 0, locals := 0 }) s m args below meth c D 40 (cellC T q) q T A SF (some (.int r)) H locs 2 ls [] := by
  intro n
  induction n with
  | zero =>
    intro x1 x2 S H locs ls hf hw hl
    rw [jMenu_meaning_h2] at hf
    cases hf
  | succ n ih =>
    intro x1 x2 S H locs ls hf hw hl
    rw [jMenu_meaning_h2] at hf
    exact jMenu_meaning_b2_ok B (jMenu_meaning_h2 n) ih x1 x2 S hf hw hl

set_option maxHeartbeats 4000000 in
theorem jMenu_meaning_b0_ok (B : XB p s m args meth c A cX1_meaning 3 (some .int) RX1) {SF : St} {r : Int32}  (x1 : Int32) (S : St) {H : Heap} {locs : List Loc} {ls : Array Slot} (hf : jMenu_meaning x1 S = some (r, SF)) (hw : Xw D 40 (cellC T q) q T (ExC aK aV) A s S H locs) (hl : lv_has ls 3 [(0, .ref (q 14)), (1, .int x1)]) : XG p l e ({ frames := 0, cells := 0, slots := 0, locals := 0 }) s m args below meth c D 40 (cellC T q) q T A SF (some (.int r)) H locs 0 ls [] := by
  unfold jMenu_meaning at hf
  obtain ⟨hx, hb, hr, hml, hown, hts, hlk, hA⟩ := id B
  refine lv_iconst (v := 0) hx hb dX1_meaning_0 (by decide) ?_
  refine lv_istore_n (lv' := [(2, .int 0), (0, .ref (q 14)), (1, .int x1)]) hx hb dX1_meaning_1 rfl hl (by decide) rfl (fun ls hl => ?_)
  exact jMenu_meaning_h2_ok B FU x1 0 S _ _ _ hf hw (lv_sub hl [1, 2, 0] rfl)

set_option maxHeartbeats 4000000 in
theorem jMenu_meaning_ok {x1 : Int32} {S SF : St} {r : Int32} (hf : jMenu_meaning x1 S = some (r, SF)) : XMet l D 40 (cellC T q) q T (ExC aK aV) yX1_meaning cX1_meaning 3 (some .int) ({ frames := 0, cells := 0, slots := 0, locals := 0 }) [.ref (q 14), .int x1] S (some (.int r)) SF := by
  refine x_enter (own := RX1) (by decide +kernel) rfl (Nat.le_of_ble_eq_true rfl) (fun p e s m below meth c A B ls hw hl0 => ?_)
  have hl : lv_has ls 3 [(0, .ref (q 14)), (1, .int x1)] := hl0
  exact jMenu_meaning_b0_ok B x1 S hf hw hl

set_option maxHeartbeats 4000000 in
theorem jSmoke_means_b0_ok (B : XB p s m args meth c A cX6_means 2 (some .int) RX6) {SF : St} {r : Int32}  (x1 : Int32) (S : St) {H : Heap} {locs : List Loc} {ls : Array Slot} (hf : jSmoke_means x1 S = some (r, SF)) (hw : Xw D 40 (cellC T q) q T (ExC aK aV) A s S H locs) (hl : lv_has ls 2 [(0, .ref (q 0)), (1, .int x1)]) : XG p l e ({ frames := 1, cells := 0, slots := 0, locals := 22 }) s m args below meth c D 40 (cellC T q) q T A SF (some (.int r)) H locs 0 ls [] := by
  unfold jSmoke_means at hf
  obtain ⟨hx, hb, hr, hml, hown, hts, hlk, hA⟩ := id B
  refine lv_iload_n hx hb dX6_means_0 rfl (lv_at hl 1 rfl) ?_
  obtain ⟨v2, S1, hc, hf⟩ := x_bd_some hf
  refine x_callS B ExC_ok hw (As := [.int x1]) (rest := []) (st1 := [.int v2]) (jSmoke_isSmoke_ok hc) u524 u525 u38 u526 hdX6_isSmoke rfl ⟨Nat.le_of_ble_eq_true rfl, Nat.le_of_ble_eq_true rfl⟩ ⟨rfl, rfl⟩ hl.1 (Nat.le_of_ble_eq_true rfl) dX6_means_1 (fun H locs hw => ?_) rfl rfl
  refine lv_if_ne (tgt := 9) hx hb dX6_means_4 (by decide) (fun hc => ?_) (fun hc => ?_)
  · have hf := x_neg hc hf
    refine lv_aload_n hx hb dX6_means_9 rfl (lv_at hl 0 rfl) ?_
    refine x_get B hw (Tb := TX6) inX6 0 (by decide) rfl rfl 2 (by decide) u232 (fun _ h => h) rfl dX6_means_10 ?_
    refine lv_iload_n hx hb dX6_means_13 rfl (lv_at hl 1 rfl) ?_
    obtain ⟨v4, S3, hc, hf⟩ := x_bd_some hf
    refine x_callV B ExC_ok hw 14 (by decide) rfl rfl (As := [.int x1]) (rest := []) (st1 := [.int v4]) (jMenu_meaning_ok hc) u535 u536 u537 u41 u538 hdX1_meaning rfl ⟨Nat.le_of_ble_eq_true rfl, Nat.le_of_ble_eq_true rfl⟩ ⟨rfl, rfl⟩ hl.1 (Nat.le_of_ble_eq_true rfl) dX6_means_14 (fun H locs hw => ?_) rfl rfl
    exact x_iret B hw hf dX6_means_17
  · have hf := x_pos hc hf
    refine lv_iconst (v := (-1)) hx hb dX6_means_7 (by decide) ?_
    exact x_iret B hw hf dX6_means_8

set_option maxHeartbeats 4000000 in
theorem jSmoke_means_ok {x1 : Int32} {S SF : St} {r : Int32} (hf : jSmoke_means x1 S = some (r, SF)) : XMet l D 40 (cellC T q) q T (ExC aK aV) yX6_means cX6_means 2 (some .int) ({ frames := 1, cells := 0, slots := 0, locals := 22 }) [.ref (q 0), .int x1] S (some (.int r)) SF := by
  refine x_enter (own := RX6) (by decide +kernel) rfl (Nat.le_of_ble_eq_true rfl) (fun p e s m below meth c A B ls hw hl0 => ?_)
  have hl : lv_has ls 2 [(0, .ref (q 0)), (1, .int x1)] := hl0
  exact jSmoke_means_b0_ok B x1 S hf hw hl

set_option maxHeartbeats 4000000 in
theorem jMenu_leastSaying_b2_ok (B : XB p s m args meth c A cX1_leastSaying 3 (some .int) RX1) {SF : St} {r : Int32} (K2 : Int32 → Int32 → St → Option (Int32 × St)) (hK2 : ∀ (x1 : Int32) (x2 : Int32) (S : St) (H : Heap) (locs : List Loc) (ls : Array Slot), K2 x1 x2 S = some (r, SF) → Xw D 40 (cellC T q) q T (ExC aK aV) A s S H locs → lv_has ls 3 [(0, .ref (q 14)), (1, .int x1), (2, .int x2)] → XG p l e ({ frames := 0, cells := 0, slots := 0, locals := 0 }) s m args below meth c D 40 (cellC T q) q T A SF (some (.int r)) H locs 2 ls [])  (x1 : Int32) (x2 : Int32) (S : St) {H : Heap} {locs : List Loc} {ls : Array Slot} (hf : jMenu_leastSaying_b2 K2 x1 x2 S = some (r, SF)) (hw : Xw D 40 (cellC T q) q T (ExC aK aV) A s S H locs) (hl : lv_has ls 3 [(0, .ref (q 14)), (1, .int x1), (2, .int x2)]) : XG p l e ({ frames := 0, cells := 0, slots := 0, locals := 0 }) s m args below meth c D 40 (cellC T q) q T A SF (some (.int r)) H locs 2 ls [] := by
  unfold jMenu_leastSaying_b2 at hf
  obtain ⟨hx, hb, hr, hml, hown, hts, hlk, hA⟩ := id B
  refine lv_iload_n hx hb dX1_leastSaying_2 rfl (lv_at hl 2 rfl) ?_
  refine lv_aload_n hx hb dX1_leastSaying_3 rfl (lv_at hl 0 rfl) ?_
  refine x_get B hw (Tb := TX1) inX1 14 (by decide) rfl rfl 4 (by decide) u112 (fun _ h => h) rfl dX1_leastSaying_4 ?_
  refine lv_icmp_ge (tgt := 28) hx hb dX1_leastSaying_7 (by decide) (fun hc => ?_) (fun hc => ?_)
  · have hf := x_pos hc hf
    refine lv_iconst (v := (-1)) hx hb dX1_leastSaying_28 (by decide) ?_
    exact x_iret B hw hf dX1_leastSaying_29
  · have hf := x_neg hc hf
    refine lv_aload_n hx hb dX1_leastSaying_10 rfl (lv_at hl 0 rfl) ?_
    refine x_get B hw (Tb := TX1) inX1 14 (by decide) rfl rfl 3 (by decide) u109 (fun _ h => h) rfl dX1_leastSaying_11 ?_
    refine lv_iload_n hx hb dX1_leastSaying_14 rfl (lv_at hl 2 rfl) ?_
    refine x_iald B hw 18 (by decide) rfl dX1_leastSaying_15 hf (fun v1 hf => ?_)
    refine lv_iload_n hx hb dX1_leastSaying_16 rfl (lv_at hl 1 rfl) ?_
    refine lv_icmp_ne (tgt := 22) hx hb dX1_leastSaying_17 (by decide) (fun hc => ?_) (fun hc => ?_)
    · have hf := x_neg hc hf
      refine lv_iinc (v := x2 + 1) (lv' := [(2, .int (x2 + 1)), (0, .ref (q 14)), (1, .int x1)]) hx hb dX1_leastSaying_22 hl (k := 2) rfl xi_1 (by decide) rfl (fun ls hl => ?_)
      refine lv_goto (tgt := 2) hx hb dX1_leastSaying_25 (by decide) ?_
      exact hK2 x1 (x2 + 1) S _ _ _ hf hw (lv_sub hl [1, 2, 0] rfl)
    · have hf := x_pos hc hf
      refine lv_iload_n hx hb dX1_leastSaying_20 rfl (lv_at hl 2 rfl) ?_
      exact x_iret B hw hf dX1_leastSaying_21

theorem jMenu_leastSaying_h2_ok (B : XB p s m args meth c A cX1_leastSaying 3 (some .int) RX1) {SF : St} {r : Int32} : ∀ (n : Nat) (x1 : Int32) (x2 : Int32) (S : St) (H : Heap) (locs : List Loc) (ls : Array Slot), jMenu_leastSaying_h2 n x1 x2 S = some (r, SF) → Xw D 40 (cellC T q) q T (ExC aK aV) A s S H locs → lv_has ls 3 [(0, .ref (q 14)), (1, .int x1), (2, .int x2)] → XG p l e ({ frames := 0, cells := 0, slots := 0, locals := 0 }) s m args below meth c D 40 (cellC T q) q T A SF (some (.int r)) H locs 2 ls [] := by
  intro n
  induction n with
  | zero =>
    intro x1 x2 S H locs ls hf hw hl
    rw [jMenu_leastSaying_h2] at hf
    cases hf
  | succ n ih =>
    intro x1 x2 S H locs ls hf hw hl
    rw [jMenu_leastSaying_h2] at hf
    exact jMenu_leastSaying_b2_ok B (jMenu_leastSaying_h2 n) ih x1 x2 S hf hw hl

set_option maxHeartbeats 4000000 in
theorem jMenu_leastSaying_b0_ok (B : XB p s m args meth c A cX1_leastSaying 3 (some .int) RX1) {SF : St} {r : Int32}  (x1 : Int32) (S : St) {H : Heap} {locs : List Loc} {ls : Array Slot} (hf : jMenu_leastSaying x1 S = some (r, SF)) (hw : Xw D 40 (cellC T q) q T (ExC aK aV) A s S H locs) (hl : lv_has ls 3 [(0, .ref (q 14)), (1, .int x1)]) : XG p l e ({ frames := 0, cells := 0, slots := 0, locals := 0 }) s m args below meth c D 40 (cellC T q) q T A SF (some (.int r)) H locs 0 ls [] := by
  unfold jMenu_leastSaying at hf
  obtain ⟨hx, hb, hr, hml, hown, hts, hlk, hA⟩ := id B
  refine lv_iconst (v := 0) hx hb dX1_leastSaying_0 (by decide) ?_
  refine lv_istore_n (lv' := [(2, .int 0), (0, .ref (q 14)), (1, .int x1)]) hx hb dX1_leastSaying_1 rfl hl (by decide) rfl (fun ls hl => ?_)
  exact jMenu_leastSaying_h2_ok B FU x1 0 S _ _ _ hf hw (lv_sub hl [1, 2, 0] rfl)

set_option maxHeartbeats 4000000 in
theorem jMenu_leastSaying_ok {x1 : Int32} {S SF : St} {r : Int32} (hf : jMenu_leastSaying x1 S = some (r, SF)) : XMet l D 40 (cellC T q) q T (ExC aK aV) yX1_leastSaying cX1_leastSaying 3 (some .int) ({ frames := 0, cells := 0, slots := 0, locals := 0 }) [.ref (q 14), .int x1] S (some (.int r)) SF := by
  refine x_enter (own := RX1) (by decide +kernel) rfl (Nat.le_of_ble_eq_true rfl) (fun p e s m below meth c A B ls hw hl0 => ?_)
  have hl : lv_has ls 3 [(0, .ref (q 14)), (1, .int x1)] := hl0
  exact jMenu_leastSaying_b0_ok B x1 S hf hw hl
end
