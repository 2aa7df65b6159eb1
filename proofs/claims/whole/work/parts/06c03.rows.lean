section
variable {p : Program} {l : Launch} {e : Env} {s : State} {m : MethodId} {args : Array Value} {below : List Frame} {meth : Method} {c : Code} {D : va_G} {q aK aV : Nat → Nat} {T : Nat → ClassId} {A : Nat → Prop}
set_option maxHeartbeats 4000000 in
theorem jSmoke_isRow_b0_ok (B : XB p s m args meth c A cX6_isRow 3 (some .boolean) RX6) {SF : St} {r : Int32}  (x0 : Int32) (x1 : Int32) (x2 : Int32) (S : St) {H : Heap} {locs : List Loc} {ls : Array Slot} (hf : jSmoke_isRow x0 x1 x2 S = some (r, SF)) (hw : Xw D 40 (cellC T q) q T (ExC aK aV) A s S H locs) (hl : lv_has ls 3 [(0, .int x0), (1, .int x1), (2, .int x2)]) : XG p l e ({ frames := 1, cells := 0, slots := 0, locals := 20 }) s m args below meth c D 40 (cellC T q) q T A SF (some (.int r)) H locs 0 ls [] := by
  unfold jSmoke_isRow at hf
  obtain ⟨hx, hb, hr, hml, hown, hts, hlk, hA⟩ := id B
  refine lv_iload_n hx hb dX6_isRow_0 rfl (lv_at hl 0 rfl) ?_
  obtain ⟨v2, S1, hc, hf⟩ := x_bd_some hf
  refine x_callS B ExC_ok hw (As := [.int x0]) (rest := []) (st1 := [.int v2]) (jSmoke_isWord_ok hc) u478 u479 u38 u480 hdX6_isWord rfl ⟨Nat.le_of_ble_eq_true rfl, Nat.le_of_ble_eq_true rfl⟩ ⟨rfl, rfl⟩ hl.1 (Nat.le_of_ble_eq_true rfl) dX6_isRow_1 (fun H locs hw => ?_) rfl rfl
  refine lv_if_ne (tgt := 9) hx hb dX6_isRow_4 (by decide) (fun hc => ?_) (fun hc => ?_)
  · have hf := x_neg hc hf
    refine lv_iload_n hx hb dX6_isRow_9 rfl (lv_at hl 1 rfl) ?_
    refine lv_iconst (v := (-1)) hx hb dX6_isRow_10 (by decide) ?_
    refine lv_icmp_ne (tgt := 25) hx hb dX6_isRow_11 (by decide) (fun hc => ?_) (fun hc => ?_)
    · have hf := x_neg hc hf
      refine lv_iload_n hx hb dX6_isRow_25 rfl (lv_at hl 1 rfl) ?_
      obtain ⟨v4, S3, hc, hf⟩ := x_bd_some hf
      refine x_callS B ExC_ok hw (As := [.int x1]) (rest := []) (st1 := [.int v4]) (jSmoke_isWord_ok hc) u478 u479 u38 u480 hdX6_isWord rfl ⟨Nat.le_of_ble_eq_true rfl, Nat.le_of_ble_eq_true rfl⟩ ⟨rfl, rfl⟩ hl.1 (Nat.le_of_ble_eq_true rfl) dX6_isRow_26 (fun H locs hw => ?_) rfl rfl
      refine lv_if_eq (tgt := 48) hx hb dX6_isRow_29 (by decide) (fun hc => ?_) (fun hc => ?_)
      · have hf := x_pos hc hf
        refine lv_iconst (v := 0) hx hb dX6_isRow_48 (by decide) ?_
        exact x_zret B hw hf dX6_isRow_49
      · have hf := x_neg hc hf
        refine lv_iload_n hx hb dX6_isRow_32 rfl (lv_at hl 2 rfl) ?_
        refine lv_iconst (v := (-1)) hx hb dX6_isRow_33 (by decide) ?_
        refine lv_icmp_eq (tgt := 44) hx hb dX6_isRow_34 (by decide) (fun hc => ?_) (fun hc => ?_)
        · have hf := x_pos hc hf
          refine lv_iconst (v := 1) hx hb dX6_isRow_44 (by decide) ?_
          refine lv_goto (tgt := 49) hx hb dX6_isRow_45 (by decide) ?_
          exact x_zret B hw hf dX6_isRow_49
        · have hf := x_neg hc hf
          refine lv_iload_n hx hb dX6_isRow_37 rfl (lv_at hl 2 rfl) ?_
          obtain ⟨v6, S5, hc, hf⟩ := x_bd_some hf
          refine x_callS B ExC_ok hw (As := [.int x2]) (rest := []) (st1 := [.int v6]) (jSmoke_isWord_ok hc) u478 u479 u38 u480 hdX6_isWord rfl ⟨Nat.le_of_ble_eq_true rfl, Nat.le_of_ble_eq_true rfl⟩ ⟨rfl, rfl⟩ hl.1 (Nat.le_of_ble_eq_true rfl) dX6_isRow_38 (fun H locs hw => ?_) rfl rfl
          refine lv_if_eq (tgt := 48) hx hb dX6_isRow_41 (by decide) (fun hc => ?_) (fun hc => ?_)
          · have hf := x_pos hc hf
            refine lv_iconst (v := 0) hx hb dX6_isRow_48 (by decide) ?_
            exact x_zret B hw hf dX6_isRow_49
          · have hf := x_neg hc hf
            refine lv_iconst (v := 1) hx hb dX6_isRow_44 (by decide) ?_
            refine lv_goto (tgt := 49) hx hb dX6_isRow_45 (by decide) ?_
            exact x_zret B hw hf dX6_isRow_49
    · have hf := x_pos hc hf
      refine lv_iload_n hx hb dX6_isRow_14 rfl (lv_at hl 2 rfl) ?_
      refine lv_iconst (v := (-1)) hx hb dX6_isRow_15 (by decide) ?_
      refine lv_icmp_ne (tgt := 23) hx hb dX6_isRow_16 (by decide) (fun hc => ?_) (fun hc => ?_)
      · have hf := x_neg hc hf
        refine lv_iconst (v := 0) hx hb dX6_isRow_23 (by decide) ?_
        exact x_zret B hw hf dX6_isRow_24
      · have hf := x_pos hc hf
        refine lv_iconst (v := 1) hx hb dX6_isRow_19 (by decide) ?_
        refine lv_goto (tgt := 24) hx hb dX6_isRow_20 (by decide) ?_
        exact x_zret B hw hf dX6_isRow_24
  · have hf := x_pos hc hf
    refine lv_iconst (v := 0) hx hb dX6_isRow_7 (by decide) ?_
    exact x_zret B hw hf dX6_isRow_8

set_option maxHeartbeats 4000000 in
theorem jSmoke_isRow_ok {x0 : Int32} {x1 : Int32} {x2 : Int32} {S SF : St} {r : Int32} (hf : jSmoke_isRow x0 x1 x2 S = some (r, SF)) : XMet l D 40 (cellC T q) q T (ExC aK aV) yX6_isRow cX6_isRow 3 (some .boolean) ({ frames := 1, cells := 0, slots := 0, locals := 20 }) [.int x0, .int x1, .int x2] S (some (.int r)) SF := by
  refine x_enter (own := RX6) (by decide +kernel) rfl (Nat.le_of_ble_eq_true rfl) (fun p e s m below meth c A B ls hw hl0 => ?_)
  have hl : lv_has ls 3 [(0, .int x0), (1, .int x1), (2, .int x2)] := hl0
  exact jSmoke_isRow_b0_ok B x0 x1 x2 S hf hw hl

set_option maxHeartbeats 4000000 in
theorem jSpeech_hear_b41_ok (B : XB p s m args meth c A cX2_hear 4 none RX2) {SF : St}  (s0 : Int32) (S : St) {H : Heap} {locs : List Loc} {ls : Array Slot} (hf : jSpeech_hear_b41 s0 S = some SF) (hw : Xw D 40 (cellC T q) q T (ExC aK aV) A s S H locs) (hl : lv_has ls 4 []) : XG p l e ({ frames := 0, cells := 0, slots := 0, locals := 0 }) s m args below meth c D 40 (cellC T q) q T A SF none H locs 41 ls [.int s0, .ref (q 31)] := by
  unfold jSpeech_hear_b41 at hf
  obtain ⟨hx, hb, hr, hml, hown, hts, hlk, hA⟩ := id B
  refine x_put B hw (Tb := TX2) inX2 tyX2 tyX2_ok nmX2 31 (by decide) rfl rfl 4 (by decide) u199 (fun _ h => h) rfl (ty := .int) (by decide +kernel) rfl rfl (Nat.le_of_ble_eq_true rfl) (S1 := upI S 31 4 s0) rfl upI_o (fun _ _ => rfl) dX2_hear_41 hf (fun S4 H locs hw hf => ?_)
  exact x_vret B hw hf dX2_hear_44

set_option maxHeartbeats 4000000 in
theorem jSpeech_hear_b0_ok (B : XB p s m args meth c A cX2_hear 4 none RX2) {SF : St}  (x1 : Int32) (x2 : Int32) (x3 : Int32) (S : St) {H : Heap} {locs : List Loc} {ls : Array Slot} (hf : jSpeech_hear x1 x2 x3 S = some SF) (hw : Xw D 40 (cellC T q) q T (ExC aK aV) A s S H locs) (hl : lv_has ls 4 [(0, .ref (q 31)), (1, .int x1), (2, .int x2), (3, .int x3)]) : XG p l e ({ frames := 0, cells := 0, slots := 0, locals := 0 }) s m args below meth c D 40 (cellC T q) q T A SF none H locs 0 ls [] := by
  unfold jSpeech_hear at hf
  obtain ⟨hx, hb, hr, hml, hown, hts, hlk, hA⟩ := id B
  refine lv_aload_n hx hb dX2_hear_0 rfl (lv_at hl 0 rfl) ?_
  refine x_get B hw (Tb := TX2) inX2 31 (by decide) rfl rfl 0 (by decide) u193 (fun _ h => h) rfl dX2_hear_1 ?_
  refine lv_iconst (v := 0) hx hb dX2_hear_4 (by decide) ?_
  refine lv_iload_n hx hb dX2_hear_5 rfl (lv_at hl 1 rfl) ?_
  refine x_iast B hw 32 (by decide) (fun _ _ => rfl) dX2_hear_6 hf (fun S1 H locs hw hf => ?_)
  refine lv_aload_n hx hb dX2_hear_7 rfl (lv_at hl 0 rfl) ?_
  refine x_get B hw (Tb := TX2) inX2 31 (by decide) rfl rfl 0 (by decide) u193 (fun _ h => h) rfl dX2_hear_8 ?_
  refine lv_iconst (v := 1) hx hb dX2_hear_11 (by decide) ?_
  refine lv_iload_n hx hb dX2_hear_12 rfl (lv_at hl 2 rfl) ?_
  refine x_iast B hw 32 (by decide) (fun _ _ => rfl) dX2_hear_13 hf (fun S2 H locs hw hf => ?_)
  refine lv_aload_n hx hb dX2_hear_14 rfl (lv_at hl 0 rfl) ?_
  refine x_get B hw (Tb := TX2) inX2 31 (by decide) rfl rfl 0 (by decide) u193 (fun _ h => h) rfl dX2_hear_15 ?_
  refine lv_iconst (v := 2) hx hb dX2_hear_18 (by decide) ?_
  refine lv_iload_n hx hb dX2_hear_19 rfl (lv_at hl 3 rfl) ?_
  refine x_iast B hw 32 (by decide) (fun _ _ => rfl) dX2_hear_20 hf (fun S3 H locs hw hf => ?_)
  refine lv_aload_n hx hb dX2_hear_21 rfl (lv_at hl 0 rfl) ?_
  refine lv_iload_n hx hb dX2_hear_22 rfl (lv_at hl 2 rfl) ?_
  refine lv_iconst (v := (-1)) hx hb dX2_hear_23 (by decide) ?_
  refine lv_icmp_ne (tgt := 31) hx hb dX2_hear_24 (by decide) (fun hc => ?_) (fun hc => ?_)
  · have hf := x_neg hc hf
    refine lv_iload_n hx hb dX2_hear_31 rfl (lv_at hl 3 rfl) ?_
    refine lv_iconst (v := (-1)) hx hb dX2_hear_32 (by decide) ?_
    refine lv_icmp_ne (tgt := 40) hx hb dX2_hear_33 (by decide) (fun hc => ?_) (fun hc => ?_)
    · have hf := x_neg hc hf
      refine lv_iconst (v := 3) hx hb dX2_hear_40 (by decide) ?_
      exact jSpeech_hear_b41_ok B 3 S3 hf hw (lv_sub hl [] rfl)
    · have hf := x_pos hc hf
      refine lv_iconst (v := 2) hx hb dX2_hear_36 (by decide) ?_
      refine lv_goto (tgt := 41) hx hb dX2_hear_37 (by decide) ?_
      exact jSpeech_hear_b41_ok B 2 S3 hf hw (lv_sub hl [] rfl)
  · have hf := x_pos hc hf
    refine lv_iconst (v := 1) hx hb dX2_hear_27 (by decide) ?_
    refine lv_goto (tgt := 41) hx hb dX2_hear_28 (by decide) ?_
    exact jSpeech_hear_b41_ok B 1 S3 hf hw (lv_sub hl [] rfl)

set_option maxHeartbeats 4000000 in
theorem jSpeech_hear_ok {x1 : Int32} {x2 : Int32} {x3 : Int32} {S SF : St} (hf : jSpeech_hear x1 x2 x3 S = some SF) : XMet l D 40 (cellC T q) q T (ExC aK aV) yX2_hear cX2_hear 4 none ({ frames := 0, cells := 0, slots := 0, locals := 0 }) [.ref (q 31), .int x1, .int x2, .int x3] S none SF := by
  refine x_enter (own := RX2) (by decide +kernel) rfl (Nat.le_of_ble_eq_true rfl) (fun p e s m below meth c A B ls hw hl0 => ?_)
  have hl : lv_has ls 4 [(0, .ref (q 31)), (1, .int x1), (2, .int x2), (3, .int x3)] := hl0
  exact jSpeech_hear_b0_ok B x1 x2 x3 S hf hw hl

set_option maxHeartbeats 4000000 in
theorem jSuppers_fill_35_b2_ok (B : XB p s m args meth c A cX3_fill 4 none RX3) {SF : St} (K2 : Int32 → Int32 → St → Option (St)) (hK2 : ∀ (x1 : Int32) (x3 : Int32) (S : St) (H : Heap) (locs : List Loc) (ls : Array Slot), K2 x1 x3 S = some SF → Xw D 40 (cellC T q) q T (ExC aK aV) A s S H locs → lv_has ls 4 [(0, .ref (q 19)), (1, .int x1), (2, .ref (q 35)), (3, .int x3)] → XG p l e ({ frames := 1, cells := 0, slots := 0, locals := 22 }) s m args below meth c D 40 (cellC T q) q T A SF none H locs 2 ls [])  (x1 : Int32) (x3 : Int32) (S : St) {H : Heap} {locs : List Loc} {ls : Array Slot} (hf : jSuppers_fill_35_b2 K2 x1 x3 S = some SF) (hw : Xw D 40 (cellC T q) q T (ExC aK aV) A s S H locs) (hl : lv_has ls 4 [(0, .ref (q 19)), (1, .int x1), (2, .ref (q 35)), (3, .int x3)]) : XG p l e ({ frames := 1, cells := 0, slots := 0, locals := 22 }) s m args below meth c D 40 (cellC T q) q T A SF none H locs 2 ls [] := by
  unfold jSuppers_fill_35_b2 at hf
  obtain ⟨hx, hb, hr, hml, hown, hts, hlk, hA⟩ := id B
  refine lv_iload_n hx hb dX3_fill_2 rfl (lv_at hl 3 rfl) ?_
  refine lv_iconst (v := 5) hx hb dX3_fill_3 (by decide) ?_
  refine lv_icmp_ge (tgt := 22) hx hb dX3_fill_4 (by decide) (fun hc => ?_) (fun hc => ?_)
  · have hf := x_pos hc hf
    exact x_vret B hw hf dX3_fill_22
  · have hf := x_neg hc hf
    refine lv_aload_n hx hb dX3_fill_7 rfl (lv_at hl 2 rfl) ?_
    refine lv_iload_n hx hb dX3_fill_8 rfl (lv_at hl 3 rfl) ?_
    refine lv_aload_n hx hb dX3_fill_9 rfl (lv_at hl 0 rfl) ?_
    refine lv_iload_n hx hb dX3_fill_10 rfl (lv_at hl 1 rfl) ?_
    refine lv_iload_n hx hb dX3_fill_11 rfl (lv_at hl 3 rfl) ?_
    obtain ⟨v2, S1, hc, hf⟩ := x_bd_some hf
    refine x_callV B ExC_ok hw 19 (by decide) rfl rfl (As := [.int x1, .int x3]) (rest := [.int x3, .ref (q 35)]) (st1 := [.int v2, .int x3, .ref (q 35)]) (jSuppers_stock_ok hc) u410 u403 u404 u42 u405 hdX3_stock rfl ⟨Nat.le_of_ble_eq_true rfl, Nat.le_of_ble_eq_true rfl⟩ ⟨rfl, rfl⟩ hl.1 (Nat.le_of_ble_eq_true rfl) dX3_fill_12 (fun H locs hw => ?_) rfl rfl
    refine x_iast B hw 35 (by decide) (fun _ _ => rfl) dX3_fill_15 hf (fun S3 H locs hw hf => ?_)
    refine lv_iinc (v := x3 + 1) (lv' := [(3, .int (x3 + 1)), (0, .ref (q 19)), (1, .int x1), (2, .ref (q 35))]) hx hb dX3_fill_16 hl (k := 3) rfl xi_1 (by decide) rfl (fun ls hl => ?_)
    refine lv_goto (tgt := 2) hx hb dX3_fill_19 (by decide) ?_
    exact hK2 x1 (x3 + 1) S3 _ _ _ hf hw (lv_sub hl [1, 2, 3, 0] rfl)

theorem jSuppers_fill_35_h2_ok (B : XB p s m args meth c A cX3_fill 4 none RX3) {SF : St} : ∀ (n : Nat) (x1 : Int32) (x3 : Int32) (S : St) (H : Heap) (locs : List Loc) (ls : Array Slot), jSuppers_fill_35_h2 n x1 x3 S = some SF → Xw D 40 (cellC T q) q T (ExC aK aV) A s S H locs → lv_has ls 4 [(0, .ref (q 19)), (1, .int x1), (2, .ref (q 35)), (3, .int x3)] → XG p l e ({ frames := 1, cells := 0, slots := 0, locals := 22 }) s m args below meth c D 40 (cellC T q) q T A SF none H locs 2 ls [] := by
  intro n
  induction n with
  | zero =>
    intro x1 x3 S H locs ls hf hw hl
    rw [jSuppers_fill_35_h2] at hf
    cases hf
  | succ n ih =>
    intro x1 x3 S H locs ls hf hw hl
    rw [jSuppers_fill_35_h2] at hf
    exact jSuppers_fill_35_b2_ok B (jSuppers_fill_35_h2 n) ih x1 x3 S hf hw hl

set_option maxHeartbeats 4000000 in
theorem jSuppers_fill_35_b0_ok (B : XB p s m args meth c A cX3_fill 4 none RX3) {SF : St}  (x1 : Int32) (S : St) {H : Heap} {locs : List Loc} {ls : Array Slot} (hf : jSuppers_fill_35 x1 S = some SF) (hw : Xw D 40 (cellC T q) q T (ExC aK aV) A s S H locs) (hl : lv_has ls 4 [(0, .ref (q 19)), (1, .int x1), (2, .ref (q 35))]) : XG p l e ({ frames := 1, cells := 0, slots := 0, locals := 22 }) s m args below meth c D 40 (cellC T q) q T A SF none H locs 0 ls [] := by
  unfold jSuppers_fill_35 at hf
  obtain ⟨hx, hb, hr, hml, hown, hts, hlk, hA⟩ := id B
  refine lv_iconst (v := 0) hx hb dX3_fill_0 (by decide) ?_
  refine lv_istore_n (lv' := [(3, .int 0), (0, .ref (q 19)), (1, .int x1), (2, .ref (q 35))]) hx hb dX3_fill_1 rfl hl (by decide) rfl (fun ls hl => ?_)
  exact jSuppers_fill_35_h2_ok B FU x1 0 S _ _ _ hf hw (lv_sub hl [1, 2, 3, 0] rfl)

set_option maxHeartbeats 4000000 in
theorem jSuppers_fill_35_ok {x1 : Int32} {S SF : St} (hf : jSuppers_fill_35 x1 S = some SF) : XMet l D 40 (cellC T q) q T (ExC aK aV) yX3_fill cX3_fill 4 none ({ frames := 1, cells := 0, slots := 0, locals := 22 }) [.ref (q 19), .int x1, .ref (q 35)] S none SF := by
  refine x_enter (own := RX3) (by decide +kernel) rfl (Nat.le_of_ble_eq_true rfl) (fun p e s m below meth c A B ls hw hl0 => ?_)
  have hl : lv_has ls 4 [(0, .ref (q 19)), (1, .int x1), (2, .ref (q 35))] := hl0
  exact jSuppers_fill_35_b0_ok B x1 S hf hw hl

set_option maxHeartbeats 4000000 in
theorem jSpeech_compare_b25_ok (B : XB p s m args meth c A cX2_compare 3 none RX2) {SF : St} (K25 : Int32 → St → Option (St)) (hK25 : ∀ (x2 : Int32) (S : St) (H : Heap) (locs : List Loc) (ls : Array Slot), K25 x2 S = some SF → Xw D 40 (cellC T q) q T (ExC aK aV) A s S H locs → lv_has ls 3 [(0, .ref (q 31)), (2, .int x2)] → XG p l e ({ frames := 0, cells := 0, slots := 0, locals := 0 }) s m args below meth c D 40 (cellC T q) q T A SF none H locs 25 ls [])  (x2 : Int32) (S : St) {H : Heap} {locs : List Loc} {ls : Array Slot} (hf : jSpeech_compare_b25 K25 x2 S = some SF) (hw : Xw D 40 (cellC T q) q T (ExC aK aV) A s S H locs) (hl : lv_has ls 3 [(0, .ref (q 31)), (2, .int x2)]) : XG p l e ({ frames := 0, cells := 0, slots := 0, locals := 0 }) s m args below meth c D 40 (cellC T q) q T A SF none H locs 25 ls [] := by
  unfold jSpeech_compare_b25 at hf
  obtain ⟨hx, hb, hr, hml, hown, hts, hlk, hA⟩ := id B
  refine lv_iload_n hx hb dX2_compare_25 rfl (lv_at hl 1 rfl) ?_
  refine lv_iconst (v := 3) hx hb dX2_compare_26 (by decide) ?_
  refine lv_icmp_ge (tgt := 48) hx hb dX2_compare_27 (by decide) (fun hc => ?_) (fun hc => ?_)
  · have hf := x_pos hc hf
    exact x_vret B hw hf dX2_compare_48
  · have hf := x_neg hc hf
    refine lv_aload_n hx hb dX2_compare_30 rfl (lv_at hl 0 rfl) ?_
    refine x_get B hw (Tb := TX2) inX2 31 (by decide) rfl rfl 2 (by decide) u195 (fun _ h => h) rfl dX2_compare_31 ?_
    refine lv_iload_n hx hb dX2_compare_34 rfl (lv_at hl 1 rfl) ?_
    refine lv_aload_n hx hb dX2_compare_35 rfl (lv_at hl 0 rfl) ?_
    refine x_get B hw (Tb := TX2) inX2 31 (by decide) rfl rfl 1 (by decide) u194 (fun _ h => h) rfl dX2_compare_36 ?_
    refine lv_iload_n hx hb dX2_compare_39 rfl (lv_at hl 1 rfl) ?_
    refine x_iald B hw 33 (by decide) rfl dX2_compare_40 hf (fun v2 hf => ?_)
    refine x_iast B hw 34 (by decide) (fun _ _ => rfl) dX2_compare_41 hf (fun S3 H locs hw hf => ?_)
    refine lv_iinc (v := x2 + 1) (lv' := [(2, .int (x2 + 1)), (0, .ref (q 31))]) hx hb dX2_compare_42 hl (k := 1) rfl xi_1 (by decide) rfl (fun ls hl => ?_)
    refine lv_goto (tgt := 25) hx hb dX2_compare_45 (by decide) ?_
    exact hK25 (x2 + 1) S3 _ _ _ hf hw (lv_sub hl [1, 0] rfl)

theorem jSpeech_compare_h25_ok (B : XB p s m args meth c A cX2_compare 3 none RX2) {SF : St} : ∀ (n : Nat) (x2 : Int32) (S : St) (H : Heap) (locs : List Loc) (ls : Array Slot), jSpeech_compare_h25 n x2 S = some SF → Xw D 40 (cellC T q) q T (ExC aK aV) A s S H locs → lv_has ls 3 [(0, .ref (q 31)), (2, .int x2)] → XG p l e ({ frames := 0, cells := 0, slots := 0, locals := 0 }) s m args below meth c D 40 (cellC T q) q T A SF none H locs 25 ls [] := by
  intro n
  induction n with
  | zero =>
    intro x2 S H locs ls hf hw hl
    rw [jSpeech_compare_h25] at hf
    cases hf
  | succ n ih =>
    intro x2 S H locs ls hf hw hl
    rw [jSpeech_compare_h25] at hf
    exact jSpeech_compare_b25_ok B (jSpeech_compare_h25 n) ih x2 S hf hw hl

set_option maxHeartbeats 4000000 in
theorem jSpeech_compare_b18_ok (B : XB p s m args meth c A cX2_compare 3 none RX2) {SF : St}  (x1 : Int32) (S : St) {H : Heap} {locs : List Loc} {ls : Array Slot} (hf : jSpeech_compare_b18 x1 S = some SF) (hw : Xw D 40 (cellC T q) q T (ExC aK aV) A s S H locs) (hl : lv_has ls 3 [(0, .ref (q 31)), (1, .int x1)]) : XG p l e ({ frames := 0, cells := 0, slots := 0, locals := 0 }) s m args below meth c D 40 (cellC T q) q T A SF none H locs 18 ls [] := by
  unfold jSpeech_compare_b18 at hf
  obtain ⟨hx, hb, hr, hml, hown, hts, hlk, hA⟩ := id B
  refine lv_aload_n hx hb dX2_compare_18 rfl (lv_at hl 0 rfl) ?_
  refine lv_iload_n hx hb dX2_compare_19 rfl (lv_at hl 1 rfl) ?_
  refine x_put B hw (Tb := TX2) inX2 tyX2 tyX2_ok nmX2 31 (by decide) rfl rfl 5 (by decide) u201 (fun _ h => h) rfl (ty := .int) (by decide +kernel) rfl rfl (Nat.le_of_ble_eq_true rfl) (S1 := upI S 31 5 x1) rfl upI_o (fun _ _ => rfl) dX2_compare_20 hf (fun S1 H locs hw hf => ?_)
  refine lv_iconst (v := 0) hx hb dX2_compare_23 (by decide) ?_
  refine lv_istore_n (lv' := [(2, .int 0), (0, .ref (q 31)), (1, .int x1)]) hx hb dX2_compare_24 rfl hl (by decide) rfl (fun ls hl => ?_)
  exact jSpeech_compare_h25_ok B FU 0 S1 _ _ _ hf hw (lv_sub hl [1, 0] rfl)

set_option maxHeartbeats 4000000 in
theorem jSpeech_compare_b0_ok (B : XB p s m args meth c A cX2_compare 3 none RX2) {SF : St}  (x1 : Int32) (S : St) {H : Heap} {locs : List Loc} {ls : Array Slot} (hf : jSpeech_compare x1 S = some SF) (hw : Xw D 40 (cellC T q) q T (ExC aK aV) A s S H locs) (hl : lv_has ls 3 [(0, .ref (q 31)), (1, .int x1)]) : XG p l e ({ frames := 0, cells := 0, slots := 0, locals := 0 }) s m args below meth c D 40 (cellC T q) q T A SF none H locs 0 ls [] := by
  unfold jSpeech_compare at hf
  obtain ⟨hx, hb, hr, hml, hown, hts, hlk, hA⟩ := id B
  refine lv_aload_n hx hb dX2_compare_0 rfl (lv_at hl 0 rfl) ?_
  refine x_get B hw (Tb := TX2) inX2 31 (by decide) rfl rfl 5 (by decide) u201 (fun _ h => h) rfl dX2_compare_1 ?_
  refine lv_bipush (v := (-9)) hx hb dX2_compare_4 (by decide) ?_
  refine lv_icmp_eq (tgt := 18) hx hb dX2_compare_6 (by decide) (fun hc => ?_) (fun hc => ?_)
  · have hf := x_pos hc hf
    exact jSpeech_compare_b18_ok B x1 S hf hw (lv_sub hl [0, 1] rfl)
  · have hf := x_neg hc hf
    refine lv_iload_n hx hb dX2_compare_9 rfl (lv_at hl 1 rfl) ?_
    refine lv_aload_n hx hb dX2_compare_10 rfl (lv_at hl 0 rfl) ?_
    refine x_get B hw (Tb := TX2) inX2 31 (by decide) rfl rfl 5 (by decide) u201 (fun _ h => h) rfl dX2_compare_11 ?_
    refine lv_icmp_lt (tgt := 18) hx hb dX2_compare_14 (by decide) (fun hc => ?_) (fun hc => ?_)
    · have hf := x_pos hc hf
      exact jSpeech_compare_b18_ok B x1 S hf hw (lv_sub hl [0, 1] rfl)
    · have hf := x_neg hc hf
      exact x_vret B hw hf dX2_compare_17

set_option maxHeartbeats 4000000 in
theorem jSpeech_compare_ok {x1 : Int32} {S SF : St} (hf : jSpeech_compare x1 S = some SF) : XMet l D 40 (cellC T q) q T (ExC aK aV) yX2_compare cX2_compare 3 none ({ frames := 0, cells := 0, slots := 0, locals := 0 }) [.ref (q 31), .int x1] S none SF := by
  refine x_enter (own := RX2) (by decide +kernel) rfl (Nat.le_of_ble_eq_true rfl) (fun p e s m below meth c A B ls hw hl0 => ?_)
  have hl : lv_has ls 3 [(0, .ref (q 31)), (1, .int x1)] := hl0
  exact jSpeech_compare_b0_ok B x1 S hf hw hl

set_option maxHeartbeats 4000000 in
theorem jMenu_fits_35_b2_ok (B : XB p s m args meth c A cX1_fits 4 (some .boolean) RX1) {SF : St} {r : Int32} (K2 : Int32 → Int32 → St → Option (Int32 × St)) (hK2 : ∀ (x1 : Int32) (x3 : Int32) (S : St) (H : Heap) (locs : List Loc) (ls : Array Slot), K2 x1 x3 S = some (r, SF) → Xw D 40 (cellC T q) q T (ExC aK aV) A s S H locs → lv_has ls 4 [(0, .ref (q 14)), (1, .int x1), (2, .ref (q 35)), (3, .int x3)] → XG p l e ({ frames := 1, cells := 0, slots := 0, locals := 22 }) s m args below meth c D 40 (cellC T q) q T A SF (some (.int r)) H locs 2 ls [])  (x1 : Int32) (x3 : Int32) (S : St) {H : Heap} {locs : List Loc} {ls : Array Slot} (hf : jMenu_fits_35_b2 K2 x1 x3 S = some (r, SF)) (hw : Xw D 40 (cellC T q) q T (ExC aK aV) A s S H locs) (hl : lv_has ls 4 [(0, .ref (q 14)), (1, .int x1), (2, .ref (q 35)), (3, .int x3)]) : XG p l e ({ frames := 1, cells := 0, slots := 0, locals := 22 }) s m args below meth c D 40 (cellC T q) q T A SF (some (.int r)) H locs 2 ls [] := by
  unfold jMenu_fits_35_b2 at hf
  obtain ⟨hx, hb, hr, hml, hown, hts, hlk, hA⟩ := id B
  refine lv_iload_n hx hb dX1_fits_2 rfl (lv_at hl 3 rfl) ?_
  refine lv_iconst (v := 5) hx hb dX1_fits_3 (by decide) ?_
  refine lv_icmp_ge (tgt := 27) hx hb dX1_fits_4 (by decide) (fun hc => ?_) (fun hc => ?_)
  · have hf := x_pos hc hf
    refine lv_iconst (v := 1) hx hb dX1_fits_27 (by decide) ?_
    exact x_zret B hw hf dX1_fits_28
  · have hf := x_neg hc hf
    refine lv_aload_n hx hb dX1_fits_7 rfl (lv_at hl 0 rfl) ?_
    refine lv_iload_n hx hb dX1_fits_8 rfl (lv_at hl 1 rfl) ?_
    refine lv_iload_n hx hb dX1_fits_9 rfl (lv_at hl 3 rfl) ?_
    obtain ⟨v2, S1, hc, hf⟩ := x_bd_some hf
    refine x_callV B ExC_ok hw 14 (by decide) rfl rfl (As := [.int x1, .int x3]) (rest := []) (st1 := [.int v2]) (jMenu_need_ok hc) u439 u420 u421 u41 u422 hdX1_need rfl ⟨Nat.le_of_ble_eq_true rfl, Nat.le_of_ble_eq_true rfl⟩ ⟨rfl, rfl⟩ hl.1 (Nat.le_of_ble_eq_true rfl) dX1_fits_10 (fun H locs hw => ?_) rfl rfl
    refine lv_aload_n hx hb dX1_fits_13 rfl (lv_at hl 2 rfl) ?_
    refine lv_iload_n hx hb dX1_fits_14 rfl (lv_at hl 3 rfl) ?_
    refine x_iald B hw 35 (by decide) rfl dX1_fits_15 hf (fun v3 hf => ?_)
    refine lv_icmp_le (tgt := 21) hx hb dX1_fits_16 (by decide) (fun hc => ?_) (fun hc => ?_)
    · have hf := x_pos hc hf
      refine lv_iinc (v := x3 + 1) (lv' := [(3, .int (x3 + 1)), (0, .ref (q 14)), (1, .int x1), (2, .ref (q 35))]) hx hb dX1_fits_21 hl (k := 3) rfl xi_1 (by decide) rfl (fun ls hl => ?_)
      refine lv_goto (tgt := 2) hx hb dX1_fits_24 (by decide) ?_
      exact hK2 x1 (x3 + 1) S1 _ _ _ hf hw (lv_sub hl [1, 2, 3, 0] rfl)
    · have hf := x_neg hc hf
      refine lv_iconst (v := 0) hx hb dX1_fits_19 (by decide) ?_
      exact x_zret B hw hf dX1_fits_20

theorem jMenu_fits_35_h2_ok (B : XB p s m args meth c A cX1_fits 4 (some .boolean) RX1) {SF : St} {r : Int32} : ∀ (n : Nat) (x1 : Int32) (x3 : Int32) (S : St) (H : Heap) (locs : List Loc) (ls : Array Slot), jMenu_fits_35_h2 n x1 x3 S = some (r, SF) → Xw D 40 (cellC T q) q T (ExC aK aV) A s S H locs → lv_has ls 4 [(0, .ref (q 14)), (1, .int x1), (2, .ref (q 35)), (3, .int x3)] → XG p l e ({ frames := 1, cells := 0, slots := 0, locals := 22 }) s m args below meth c D 40 (cellC T q) q T A SF (some (.int r)) H locs 2 ls [] := by
  intro n
  induction n with
  | zero =>
    intro x1 x3 S H locs ls hf hw hl
    rw [jMenu_fits_35_h2] at hf
    cases hf
  | succ n ih =>
    intro x1 x3 S H locs ls hf hw hl
    rw [jMenu_fits_35_h2] at hf
    exact jMenu_fits_35_b2_ok B (jMenu_fits_35_h2 n) ih x1 x3 S hf hw hl

set_option maxHeartbeats 4000000 in
theorem jMenu_fits_35_b0_ok (B : XB p s m args meth c A cX1_fits 4 (some .boolean) RX1) {SF : St} {r : Int32}  (x1 : Int32) (S : St) {H : Heap} {locs : List Loc} {ls : Array Slot} (hf : jMenu_fits_35 x1 S = some (r, SF)) (hw : Xw D 40 (cellC T q) q T (ExC aK aV) A s S H locs) (hl : lv_has ls 4 [(0, .ref (q 14)), (1, .int x1), (2, .ref (q 35))]) : XG p l e ({ frames := 1, cells := 0, slots := 0, locals := 22 }) s m args below meth c D 40 (cellC T q) q T A SF (some (.int r)) H locs 0 ls [] := by
  unfold jMenu_fits_35 at hf
  obtain ⟨hx, hb, hr, hml, hown, hts, hlk, hA⟩ := id B
  refine lv_iconst (v := 0) hx hb dX1_fits_0 (by decide) ?_
  refine lv_istore_n (lv' := [(3, .int 0), (0, .ref (q 14)), (1, .int x1), (2, .ref (q 35))]) hx hb dX1_fits_1 rfl hl (by decide) rfl (fun ls hl => ?_)
  exact jMenu_fits_35_h2_ok B FU x1 0 S _ _ _ hf hw (lv_sub hl [1, 2, 3, 0] rfl)

set_option maxHeartbeats 4000000 in
theorem jMenu_fits_35_ok {x1 : Int32} {S SF : St} {r : Int32} (hf : jMenu_fits_35 x1 S = some (r, SF)) : XMet l D 40 (cellC T q) q T (ExC aK aV) yX1_fits cX1_fits 4 (some .boolean) ({ frames := 1, cells := 0, slots := 0, locals := 22 }) [.ref (q 14), .int x1, .ref (q 35)] S (some (.int r)) SF := by
  refine x_enter (own := RX1) (by decide +kernel) rfl (Nat.le_of_ble_eq_true rfl) (fun p e s m below meth c A B ls hw hl0 => ?_)
  have hl : lv_has ls 4 [(0, .ref (q 14)), (1, .int x1), (2, .ref (q 35))] := hl0
  exact jMenu_fits_35_b0_ok B x1 S hf hw hl

set_option maxHeartbeats 4000000 in
theorem jMenu_take_35_b2_ok (B : XB p s m args meth c A cX1_take 4 none RX1) {SF : St} (K2 : Int32 → Int32 → St → Option (St)) (hK2 : ∀ (x1 : Int32) (x3 : Int32) (S : St) (H : Heap) (locs : List Loc) (ls : Array Slot), K2 x1 x3 S = some SF → Xw D 40 (cellC T q) q T (ExC aK aV) A s S H locs → lv_has ls 4 [(0, .ref (q 14)), (1, .int x1), (2, .ref (q 35)), (3, .int x3)] → XG p l e ({ frames := 1, cells := 0, slots := 0, locals := 22 }) s m args below meth c D 40 (cellC T q) q T A SF none H locs 2 ls [])  (x1 : Int32) (x3 : Int32) (S : St) {H : Heap} {locs : List Loc} {ls : Array Slot} (hf : jMenu_take_35_b2 K2 x1 x3 S = some SF) (hw : Xw D 40 (cellC T q) q T (ExC aK aV) A s S H locs) (hl : lv_has ls 4 [(0, .ref (q 14)), (1, .int x1), (2, .ref (q 35)), (3, .int x3)]) : XG p l e ({ frames := 1, cells := 0, slots := 0, locals := 22 }) s m args below meth c D 40 (cellC T q) q T A SF none H locs 2 ls [] := by
  unfold jMenu_take_35_b2 at hf
  obtain ⟨hx, hb, hr, hml, hown, hts, hlk, hA⟩ := id B
  refine lv_iload_n hx hb dX1_take_2 rfl (lv_at hl 3 rfl) ?_
  refine lv_iconst (v := 5) hx hb dX1_take_3 (by decide) ?_
  refine lv_icmp_ge (tgt := 25) hx hb dX1_take_4 (by decide) (fun hc => ?_) (fun hc => ?_)
  · have hf := x_pos hc hf
    exact x_vret B hw hf dX1_take_25
  · have hf := x_neg hc hf
    refine lv_aload_n hx hb dX1_take_7 rfl (lv_at hl 2 rfl) ?_
    refine lv_iload_n hx hb dX1_take_8 rfl (lv_at hl 3 rfl) ?_
    refine lv_dup2_11 hx hb dX1_take_9 rfl rfl ?_
    refine x_iald B hw 35 (by decide) rfl dX1_take_10 hf (fun v1 hf => ?_)
    refine lv_aload_n hx hb dX1_take_11 rfl (lv_at hl 0 rfl) ?_
    refine lv_iload_n hx hb dX1_take_12 rfl (lv_at hl 1 rfl) ?_
    refine lv_iload_n hx hb dX1_take_13 rfl (lv_at hl 3 rfl) ?_
    obtain ⟨v3, S2, hc, hf⟩ := x_bd_some hf
    refine x_callV B ExC_ok hw 14 (by decide) rfl rfl (As := [.int x1, .int x3]) (rest := [.int v1, .int x3, .ref (q 35)]) (st1 := [.int v3, .int v1, .int x3, .ref (q 35)]) (jMenu_need_ok hc) u439 u420 u421 u41 u422 hdX1_need rfl ⟨Nat.le_of_ble_eq_true rfl, Nat.le_of_ble_eq_true rfl⟩ ⟨rfl, rfl⟩ hl.1 (Nat.le_of_ble_eq_true rfl) dX1_take_14 (fun H locs hw => ?_) rfl rfl
    refine lv_isub hx hb dX1_take_17 ?_
    refine x_iast B hw 35 (by decide) (fun _ _ => rfl) dX1_take_18 hf (fun S4 H locs hw hf => ?_)
    refine lv_iinc (v := x3 + 1) (lv' := [(3, .int (x3 + 1)), (0, .ref (q 14)), (1, .int x1), (2, .ref (q 35))]) hx hb dX1_take_19 hl (k := 3) rfl xi_1 (by decide) rfl (fun ls hl => ?_)
    refine lv_goto (tgt := 2) hx hb dX1_take_22 (by decide) ?_
    exact hK2 x1 (x3 + 1) S4 _ _ _ hf hw (lv_sub hl [1, 2, 3, 0] rfl)

theorem jMenu_take_35_h2_ok (B : XB p s m args meth c A cX1_take 4 none RX1) {SF : St} : ∀ (n : Nat) (x1 : Int32) (x3 : Int32) (S : St) (H : Heap) (locs : List Loc) (ls : Array Slot), jMenu_take_35_h2 n x1 x3 S = some SF → Xw D 40 (cellC T q) q T (ExC aK aV) A s S H locs → lv_has ls 4 [(0, .ref (q 14)), (1, .int x1), (2, .ref (q 35)), (3, .int x3)] → XG p l e ({ frames := 1, cells := 0, slots := 0, locals := 22 }) s m args below meth c D 40 (cellC T q) q T A SF none H locs 2 ls [] := by
  intro n
  induction n with
  | zero =>
    intro x1 x3 S H locs ls hf hw hl
    rw [jMenu_take_35_h2] at hf
    cases hf
  | succ n ih =>
    intro x1 x3 S H locs ls hf hw hl
    rw [jMenu_take_35_h2] at hf
    exact jMenu_take_35_b2_ok B (jMenu_take_35_h2 n) ih x1 x3 S hf hw hl

set_option maxHeartbeats 4000000 in
theorem jMenu_take_35_b0_ok (B : XB p s m args meth c A cX1_take 4 none RX1) {SF : St}  (x1 : Int32) (S : St) {H : Heap} {locs : List Loc} {ls : Array Slot} (hf : jMenu_take_35 x1 S = some SF) (hw : Xw D 40 (cellC T q) q T (ExC aK aV) A s S H locs) (hl : lv_has ls 4 [(0, .ref (q 14)), (1, .int x1), (2, .ref (q 35))]) : XG p l e ({ frames := 1, cells := 0, slots := 0, locals := 22 }) s m args below meth c D 40 (cellC T q) q T A SF none H locs 0 ls [] := by
  unfold jMenu_take_35 at hf
  obtain ⟨hx, hb, hr, hml, hown, hts, hlk, hA⟩ := id B
  refine lv_iconst (v := 0) hx hb dX1_take_0 (by decide) ?_
  refine lv_istore_n (lv' := [(3, .int 0), (0, .ref (q 14)), (1, .int x1), (2, .ref (q 35))]) hx hb dX1_take_1 rfl hl (by decide) rfl (fun ls hl => ?_)
  exact jMenu_take_35_h2_ok B FU x1 0 S _ _ _ hf hw (lv_sub hl [1, 2, 3, 0] rfl)

set_option maxHeartbeats 4000000 in
theorem jMenu_take_35_ok {x1 : Int32} {S SF : St} (hf : jMenu_take_35 x1 S = some SF) : XMet l D 40 (cellC T q) q T (ExC aK aV) yX1_take cX1_take 4 none ({ frames := 1, cells := 0, slots := 0, locals := 22 }) [.ref (q 14), .int x1, .ref (q 35)] S none SF := by
  refine x_enter (own := RX1) (by decide +kernel) rfl (Nat.le_of_ble_eq_true rfl) (fun p e s m below meth c A B ls hw hl0 => ?_)
  have hl : lv_has ls 4 [(0, .ref (q 14)), (1, .int x1), (2, .ref (q 35))] := hl0
  exact jMenu_take_35_b0_ok B x1 S hf hw hl

set_option maxHeartbeats 4000000 in
theorem jSpeech_choose_0_ok {x2 : Int32} {x3 : Int32} {x4 : Int32} {S SF : St} (hf : jSpeech_choose_0 x2 x3 x4 S = some SF) : XMet l D 40 (cellC T q) q T (ExC aK aV) yX2_choose cX2_choose 6 none ({ frames := 0, cells := 0, slots := 0, locals := 0 }) [.ref (q 31), .ref (q 14), .int x2, .int x3, .int x4] S none SF := by
  cases hf

set_option maxHeartbeats 4000000 in
theorem jMenu_putBack_b2_ok (B : XB p s m args meth c A cX1_putBack 4 none RX1) {SF : St} (K2 : Int32 → Int32 → St → Option (St)) (hK2 : ∀ (x1 : Int32) (x3 : Int32) (S : St) (H : Heap) (locs : List Loc) (ls : Array Slot), K2 x1 x3 S = some SF → Xw D 40 (cellC T q) q T (ExC aK aV) A s S H locs → lv_has ls 4 [(0, .ref (q 14)), (1, .int x1), (2, .ref (q 35)), (3, .int x3)] → XG p l e ({ frames := 1, cells := 0, slots := 0, locals := 22 }) s m args below meth c D 40 (cellC T q) q T A SF none H locs 2 ls [])  (x1 : Int32) (x3 : Int32) (S : St) {H : Heap} {locs : List Loc} {ls : Array Slot} (hf : jMenu_putBack_b2 K2 x1 x3 S = some SF) (hw : Xw D 40 (cellC T q) q T (ExC aK aV) A s S H locs) (hl : lv_has ls 4 [(0, .ref (q 14)), (1, .int x1), (2, .ref (q 35)), (3, .int x3)]) : XG p l e ({ frames := 1, cells := 0, slots := 0, locals := 22 }) s m args below meth c D 40 (cellC T q) q T A SF none H locs 2 ls [] := by
  unfold jMenu_putBack_b2 at hf
  obtain ⟨hx, hb, hr, hml, hown, hts, hlk, hA⟩ := id B
  refine lv_iload_n hx hb dX1_putBack_2 rfl (lv_at hl 3 rfl) ?_
  refine lv_iconst (v := 5) hx hb dX1_putBack_3 (by decide) ?_
  refine lv_icmp_ge (tgt := 25) hx hb dX1_putBack_4 (by decide) (fun hc => ?_) (fun hc => ?_)
  · have hf := x_pos hc hf
    exact x_vret B hw hf dX1_putBack_25
  · have hf := x_neg hc hf
    refine lv_aload_n hx hb dX1_putBack_7 rfl (lv_at hl 2 rfl) ?_
    refine lv_iload_n hx hb dX1_putBack_8 rfl (lv_at hl 3 rfl) ?_
    refine lv_dup2_11 hx hb dX1_putBack_9 rfl rfl ?_
    refine x_iald B hw 35 (by decide) rfl dX1_putBack_10 hf (fun v1 hf => ?_)
    refine lv_aload_n hx hb dX1_putBack_11 rfl (lv_at hl 0 rfl) ?_
    refine lv_iload_n hx hb dX1_putBack_12 rfl (lv_at hl 1 rfl) ?_
    refine lv_iload_n hx hb dX1_putBack_13 rfl (lv_at hl 3 rfl) ?_
    obtain ⟨v3, S2, hc, hf⟩ := x_bd_some hf
    refine x_callV B ExC_ok hw 14 (by decide) rfl rfl (As := [.int x1, .int x3]) (rest := [.int v1, .int x3, .ref (q 35)]) (st1 := [.int v3, .int v1, .int x3, .ref (q 35)]) (jMenu_need_ok hc) u439 u420 u421 u41 u422 hdX1_need rfl ⟨Nat.le_of_ble_eq_true rfl, Nat.le_of_ble_eq_true rfl⟩ ⟨rfl, rfl⟩ hl.1 (Nat.le_of_ble_eq_true rfl) dX1_putBack_14 (fun H locs hw => ?_) rfl rfl
    refine lv_iadd hx hb dX1_putBack_17 ?_
    refine x_iast B hw 35 (by decide) (fun _ _ => rfl) dX1_putBack_18 hf (fun S4 H locs hw hf => ?_)
    refine lv_iinc (v := x3 + 1) (lv' := [(3, .int (x3 + 1)), (0, .ref (q 14)), (1, .int x1), (2, .ref (q 35))]) hx hb dX1_putBack_19 hl (k := 3) rfl xi_1 (by decide) rfl (fun ls hl => ?_)
    refine lv_goto (tgt := 2) hx hb dX1_putBack_22 (by decide) ?_
    exact hK2 x1 (x3 + 1) S4 _ _ _ hf hw (lv_sub hl [1, 2, 3, 0] rfl)

theorem jMenu_putBack_h2_ok (B : XB p s m args meth c A cX1_putBack 4 none RX1) {SF : St} : ∀ (n : Nat) (x1 : Int32) (x3 : Int32) (S : St) (H : Heap) (locs : List Loc) (ls : Array Slot), jMenu_putBack_h2 n x1 x3 S = some SF → Xw D 40 (cellC T q) q T (ExC aK aV) A s S H locs → lv_has ls 4 [(0, .ref (q 14)), (1, .int x1), (2, .ref (q 35)), (3, .int x3)] → XG p l e ({ frames := 1, cells := 0, slots := 0, locals := 22 }) s m args below meth c D 40 (cellC T q) q T A SF none H locs 2 ls [] := by
  intro n
  induction n with
  | zero =>
    intro x1 x3 S H locs ls hf hw hl
    rw [jMenu_putBack_h2] at hf
    cases hf
  | succ n ih =>
    intro x1 x3 S H locs ls hf hw hl
    rw [jMenu_putBack_h2] at hf
    exact jMenu_putBack_b2_ok B (jMenu_putBack_h2 n) ih x1 x3 S hf hw hl

set_option maxHeartbeats 4000000 in
theorem jMenu_putBack_b0_ok (B : XB p s m args meth c A cX1_putBack 4 none RX1) {SF : St}  (x1 : Int32) (S : St) {H : Heap} {locs : List Loc} {ls : Array Slot} (hf : jMenu_putBack x1 S = some SF) (hw : Xw D 40 (cellC T q) q T (ExC aK aV) A s S H locs) (hl : lv_has ls 4 [(0, .ref (q 14)), (1, .int x1), (2, .ref (q 35))]) : XG p l e ({ frames := 1, cells := 0, slots := 0, locals := 22 }) s m args below meth c D 40 (cellC T q) q T A SF none H locs 0 ls [] := by
  unfold jMenu_putBack at hf
  obtain ⟨hx, hb, hr, hml, hown, hts, hlk, hA⟩ := id B
  refine lv_iconst (v := 0) hx hb dX1_putBack_0 (by decide) ?_
  refine lv_istore_n (lv' := [(3, .int 0), (0, .ref (q 14)), (1, .int x1), (2, .ref (q 35))]) hx hb dX1_putBack_1 rfl hl (by decide) rfl (fun ls hl => ?_)
  exact jMenu_putBack_h2_ok B FU x1 0 S _ _ _ hf hw (lv_sub hl [1, 2, 3, 0] rfl)

set_option maxHeartbeats 4000000 in
theorem jMenu_putBack_ok {x1 : Int32} {S SF : St} (hf : jMenu_putBack x1 S = some SF) : XMet l D 40 (cellC T q) q T (ExC aK aV) yX1_putBack cX1_putBack 4 none ({ frames := 1, cells := 0, slots := 0, locals := 22 }) [.ref (q 14), .int x1, .ref (q 35)] S none SF := by
  refine x_enter (own := RX1) (by decide +kernel) rfl (Nat.le_of_ble_eq_true rfl) (fun p e s m below meth c A B ls hw hl0 => ?_)
  have hl : lv_has ls 4 [(0, .ref (q 14)), (1, .int x1), (2, .ref (q 35))] := hl0
  exact jMenu_putBack_b0_ok B x1 S hf hw hl

set_option maxHeartbeats 4000000 in
theorem jSpeech_choose_1_b13_ok (B : XB p s m args meth c A cX2_choose 6 none RX2) {SF : St}  (x4 : Int32) (S : St) {H : Heap} {locs : List Loc} {ls : Array Slot} (hf : jSpeech_choose_1_b13 x4 S = some SF) (hw : Xw D 40 (cellC T q) q T (ExC aK aV) A s S H locs) (hl : lv_has ls 6 [(0, .ref (q 31)), (4, .int x4)]) : XG p l e ({ frames := 2, cells := 0, slots := 0, locals := 45 }) s m args below meth c D 40 (cellC T q) q T A SF none H locs 13 ls [] := by
  unfold jSpeech_choose_1_b13 at hf
  obtain ⟨hx, hb, hr, hml, hown, hts, hlk, hA⟩ := id B
  refine lv_aload_n hx hb dX2_choose_13 rfl (lv_at hl 0 rfl) ?_
  refine lv_iload hx hb dX2_choose_14 (lv_at hl 1 rfl) ?_
  obtain ⟨S1, hc, hf⟩ := x_bv_some hf
  refine x_callV B ExC_ok hw 31 (by decide) rfl rfl (As := [.int x4]) (rest := []) (st1 := []) (jSpeech_compare_ok hc) u492 u494 u7 u43 u495 hdX2_compare rfl ⟨Nat.le_of_ble_eq_true rfl, Nat.le_of_ble_eq_true rfl⟩ ⟨rfl, rfl⟩ hl.1 (Nat.le_of_ble_eq_true rfl) dX2_choose_16 (fun H locs hw => ?_) rfl rfl
  exact x_vret B hw hf dX2_choose_19

set_option maxHeartbeats 4000000 in
theorem jSpeech_choose_1_b43_ok (B : XB p s m args meth c A cX2_choose 6 none RX2) {SF : St} (K43 : Int32 → Int32 → Int32 → Int32 → St → Option (St)) (hK43 : ∀ (x2 : Int32) (x3 : Int32) (x4 : Int32) (x5 : Int32) (S : St) (H : Heap) (locs : List Loc) (ls : Array Slot), K43 x2 x3 x4 x5 S = some SF → Xw D 40 (cellC T q) q T (ExC aK aV) A s S H locs → lv_has ls 6 [(0, .ref (q 31)), (1, .ref (q 14)), (2, .int x2), (3, .int x3), (4, .int x4), (5, .int x5)] → XG p l e ({ frames := 2, cells := 0, slots := 0, locals := 45 }) s m args below meth c D 40 (cellC T q) q T A SF none H locs 43 ls [])  (x2 : Int32) (x3 : Int32) (x4 : Int32) (x5 : Int32) (S : St) {H : Heap} {locs : List Loc} {ls : Array Slot} (hf : jSpeech_choose_1_b43 K43 x2 x3 x4 x5 S = some SF) (hw : Xw D 40 (cellC T q) q T (ExC aK aV) A s S H locs) (hl : lv_has ls 6 [(0, .ref (q 31)), (1, .ref (q 14)), (2, .int x2), (3, .int x3), (4, .int x4), (5, .int x5)]) : XG p l e ({ frames := 2, cells := 0, slots := 0, locals := 45 }) s m args below meth c D 40 (cellC T q) q T A SF none H locs 43 ls [] := by
  unfold jSpeech_choose_1_b43 at hf
  obtain ⟨hx, hb, hr, hml, hown, hts, hlk, hA⟩ := id B
  refine lv_iload hx hb dX2_choose_43 (lv_at hl 5 rfl) ?_
  refine lv_aload_n hx hb dX2_choose_45 rfl (lv_at hl 1 rfl) ?_
  refine x_get B hw (Tb := TX1) inX1 14 (by decide) rfl rfl 4 (by decide) u114 (fun _ h => h) rfl dX2_choose_46 ?_
  refine lv_icmp_ge (tgt := 137) hx hb dX2_choose_49 (by decide) (fun hc => ?_) (fun hc => ?_)
  · have hf := x_pos hc hf
    exact x_vret B hw hf dX2_choose_137
  · have hf := x_neg hc hf
    refine lv_aload_n hx hb dX2_choose_52 rfl (lv_at hl 1 rfl) ?_
    refine x_get B hw (Tb := TX1) inX1 14 (by decide) rfl rfl 3 (by decide) u110 (fun _ h => h) rfl dX2_choose_53 ?_
    refine lv_iload hx hb dX2_choose_56 (lv_at hl 5 rfl) ?_
    refine x_iald B hw 18 (by decide) rfl dX2_choose_58 hf (fun v2 hf => ?_)
    refine lv_aload_n hx hb dX2_choose_59 rfl (lv_at hl 0 rfl) ?_
    refine x_get B hw (Tb := TX2) inX2 31 (by decide) rfl rfl 0 (by decide) u193 (fun _ h => h) rfl dX2_choose_60 ?_
    refine lv_iload_n hx hb dX2_choose_63 rfl (lv_at hl 2 rfl) ?_
    refine x_iald B hw 32 (by decide) rfl dX2_choose_64 hf (fun v3 hf => ?_)
    refine lv_icmp_ne (tgt := 131) hx hb dX2_choose_65 (by decide) (fun hc => ?_) (fun hc => ?_)
    · have hf := x_neg hc hf
      refine lv_iinc (v := x5 + 1) (lv' := [(5, .int (x5 + 1)), (0, .ref (q 31)), (1, .ref (q 14)), (2, .int x2), (3, .int x3), (4, .int x4)]) hx hb dX2_choose_131 hl (k := 5) rfl xi_1 (by decide) rfl (fun ls hl => ?_)
      refine lv_goto (tgt := 43) hx hb dX2_choose_134 (by decide) ?_
      exact hK43 x2 x3 x4 (x5 + 1) S _ _ _ hf hw (lv_sub hl [1, 2, 3, 4, 5, 0] rfl)
    · have hf := x_pos hc hf
      refine lv_aload_n hx hb dX2_choose_68 rfl (lv_at hl 1 rfl) ?_
      refine lv_iload hx hb dX2_choose_69 (lv_at hl 5 rfl) ?_
      refine lv_aload_n hx hb dX2_choose_71 rfl (lv_at hl 0 rfl) ?_
      refine x_get B hw (Tb := TX2) inX2 31 (by decide) rfl rfl 3 (by decide) u197 (fun _ h => h) rfl dX2_choose_72 ?_
      obtain ⟨v5, S4, hc, hf⟩ := x_bd_some hf
      refine x_callV B ExC_ok hw 14 (by decide) rfl rfl (As := [.int x5, .ref (q 35)]) (rest := []) (st1 := [.int v5]) (jMenu_fits_35_ok hc) u496 u436 u437 u41 u438 hdX1_fits rfl ⟨Nat.le_of_ble_eq_true rfl, Nat.le_of_ble_eq_true rfl⟩ ⟨rfl, rfl⟩ hl.1 (Nat.le_of_ble_eq_true rfl) dX2_choose_75 (fun H locs hw => ?_) rfl rfl
      refine lv_if_ne (tgt := 84) hx hb dX2_choose_78 (by decide) (fun hc => ?_) (fun hc => ?_)
      · have hf := x_neg hc hf
        refine lv_aload_n hx hb dX2_choose_84 rfl (lv_at hl 0 rfl) ?_
        refine x_get B hw (Tb := TX2) inX2 31 (by decide) rfl rfl 1 (by decide) u194 (fun _ h => h) rfl dX2_choose_85 ?_
        refine lv_iload_n hx hb dX2_choose_88 rfl (lv_at hl 2 rfl) ?_
        refine lv_iload hx hb dX2_choose_89 (lv_at hl 5 rfl) ?_
        refine x_iast B hw 33 (by decide) (fun _ _ => rfl) dX2_choose_91 hf (fun S6 H locs hw hf => ?_)
        refine lv_aload_n hx hb dX2_choose_92 rfl (lv_at hl 1 rfl) ?_
        refine lv_iload hx hb dX2_choose_93 (lv_at hl 5 rfl) ?_
        refine lv_aload_n hx hb dX2_choose_95 rfl (lv_at hl 0 rfl) ?_
        refine x_get B hw (Tb := TX2) inX2 31 (by decide) rfl rfl 3 (by decide) u197 (fun _ h => h) rfl dX2_choose_96 ?_
        obtain ⟨S7, hc, hf⟩ := x_bv_some hf
        refine x_callV B ExC_ok hw 14 (by decide) rfl rfl (As := [.int x5, .ref (q 35)]) (rest := []) (st1 := []) (jMenu_take_35_ok hc) u497 u498 u499 u41 u500 hdX1_take rfl ⟨Nat.le_of_ble_eq_true rfl, Nat.le_of_ble_eq_true rfl⟩ ⟨rfl, rfl⟩ hl.1 (Nat.le_of_ble_eq_true rfl) dX2_choose_99 (fun H locs hw => ?_) rfl rfl
        refine lv_aload_n hx hb dX2_choose_102 rfl (lv_at hl 0 rfl) ?_
        refine lv_aload_n hx hb dX2_choose_103 rfl (lv_at hl 1 rfl) ?_
        refine lv_iload_n hx hb dX2_choose_104 rfl (lv_at hl 2 rfl) ?_
        refine lv_iconst (v := 1) hx hb dX2_choose_105 (by decide) ?_
        refine lv_iadd hx hb dX2_choose_106 ?_
        refine lv_iload_n hx hb dX2_choose_107 rfl (lv_at hl 3 rfl) ?_
        refine lv_iload hx hb dX2_choose_108 (lv_at hl 4 rfl) ?_
        refine lv_aload_n hx hb dX2_choose_110 rfl (lv_at hl 1 rfl) ?_
        refine x_get B hw (Tb := TX1) inX1 14 (by decide) rfl rfl 1 (by decide) u104 (fun _ h => h) rfl dX2_choose_111 ?_
        refine lv_iload hx hb dX2_choose_114 (lv_at hl 5 rfl) ?_
        refine x_iald B hw 16 (by decide) rfl dX2_choose_116 hf (fun v8 hf => ?_)
        refine lv_iadd hx hb dX2_choose_117 ?_
        obtain ⟨S9, hc, hf⟩ := x_bv_some hf
        refine x_callS B ExC_ok hw (As := [.ref (q 31), .ref (q 14), .int (x2 + 1), .int x3, .int (x4 + v8)]) (rest := []) (st1 := []) (jSpeech_choose_0_ok hc) u489 u490 u43 u491 hdX2_choose rfl ⟨Nat.le_of_ble_eq_true rfl, Nat.le_of_ble_eq_true rfl⟩ ⟨rfl, rfl⟩ hl.1 (Nat.le_of_ble_eq_true rfl) dX2_choose_118 (fun H locs hw => ?_) rfl rfl
        refine lv_aload_n hx hb dX2_choose_121 rfl (lv_at hl 1 rfl) ?_
        refine lv_iload hx hb dX2_choose_122 (lv_at hl 5 rfl) ?_
        refine lv_aload_n hx hb dX2_choose_124 rfl (lv_at hl 0 rfl) ?_
        refine x_get B hw (Tb := TX2) inX2 31 (by decide) rfl rfl 3 (by decide) u197 (fun _ h => h) rfl dX2_choose_125 ?_
        obtain ⟨S10, hc, hf⟩ := x_bv_some hf
        refine x_callV B ExC_ok hw 14 (by decide) rfl rfl (As := [.int x5, .ref (q 35)]) (rest := []) (st1 := []) (jMenu_putBack_ok hc) u501 u502 u503 u41 u504 hdX1_putBack rfl ⟨Nat.le_of_ble_eq_true rfl, Nat.le_of_ble_eq_true rfl⟩ ⟨rfl, rfl⟩ hl.1 (Nat.le_of_ble_eq_true rfl) dX2_choose_128 (fun H locs hw => ?_) rfl rfl
        refine lv_iinc (v := x5 + 1) (lv' := [(5, .int (x5 + 1)), (0, .ref (q 31)), (1, .ref (q 14)), (2, .int x2), (3, .int x3), (4, .int x4)]) hx hb dX2_choose_131 hl (k := 5) rfl xi_1 (by decide) rfl (fun ls hl => ?_)
        refine lv_goto (tgt := 43) hx hb dX2_choose_134 (by decide) ?_
        exact hK43 x2 x3 x4 (x5 + 1) S10 _ _ _ hf hw (lv_sub hl [1, 2, 3, 4, 5, 0] rfl)
      · have hf := x_pos hc hf
        refine lv_goto (tgt := 131) hx hb dX2_choose_81 (by decide) ?_
        refine lv_iinc (v := x5 + 1) (lv' := [(5, .int (x5 + 1)), (0, .ref (q 31)), (1, .ref (q 14)), (2, .int x2), (3, .int x3), (4, .int x4)]) hx hb dX2_choose_131 hl (k := 5) rfl xi_1 (by decide) rfl (fun ls hl => ?_)
        refine lv_goto (tgt := 43) hx hb dX2_choose_134 (by decide) ?_
        exact hK43 x2 x3 x4 (x5 + 1) S4 _ _ _ hf hw (lv_sub hl [1, 2, 3, 4, 5, 0] rfl)

theorem jSpeech_choose_1_h43_ok (B : XB p s m args meth c A cX2_choose 6 none RX2) {SF : St} : ∀ (n : Nat) (x2 : Int32) (x3 : Int32) (x4 : Int32) (x5 : Int32) (S : St) (H : Heap) (locs : List Loc) (ls : Array Slot), jSpeech_choose_1_h43 n x2 x3 x4 x5 S = some SF → Xw D 40 (cellC T q) q T (ExC aK aV) A s S H locs → lv_has ls 6 [(0, .ref (q 31)), (1, .ref (q 14)), (2, .int x2), (3, .int x3), (4, .int x4), (5, .int x5)] → XG p l e ({ frames := 2, cells := 0, slots := 0, locals := 45 }) s m args below meth c D 40 (cellC T q) q T A SF none H locs 43 ls [] := by
  intro n
  induction n with
  | zero =>
    intro x2 x3 x4 x5 S H locs ls hf hw hl
    rw [jSpeech_choose_1_h43] at hf
    cases hf
  | succ n ih =>
    intro x2 x3 x4 x5 S H locs ls hf hw hl
    rw [jSpeech_choose_1_h43] at hf
    exact jSpeech_choose_1_b43_ok B (jSpeech_choose_1_h43 n) ih x2 x3 x4 x5 S hf hw hl

set_option maxHeartbeats 4000000 in
theorem jSpeech_choose_1_b0_ok (B : XB p s m args meth c A cX2_choose 6 none RX2) {SF : St}  (x2 : Int32) (x3 : Int32) (x4 : Int32) (S : St) {H : Heap} {locs : List Loc} {ls : Array Slot} (hf : jSpeech_choose_1 x2 x3 x4 S = some SF) (hw : Xw D 40 (cellC T q) q T (ExC aK aV) A s S H locs) (hl : lv_has ls 6 [(0, .ref (q 31)), (1, .ref (q 14)), (2, .int x2), (3, .int x3), (4, .int x4)]) : XG p l e ({ frames := 2, cells := 0, slots := 0, locals := 45 }) s m args below meth c D 40 (cellC T q) q T A SF none H locs 0 ls [] := by
  unfold jSpeech_choose_1 at hf
  obtain ⟨hx, hb, hr, hml, hown, hts, hlk, hA⟩ := id B
  refine lv_iload_n hx hb dX2_choose_0 rfl (lv_at hl 2 rfl) ?_
  refine lv_aload_n hx hb dX2_choose_1 rfl (lv_at hl 0 rfl) ?_
  refine x_get B hw (Tb := TX2) inX2 31 (by decide) rfl rfl 4 (by decide) u199 (fun _ h => h) rfl dX2_choose_2 ?_
  refine lv_icmp_ge (tgt := 13) hx hb dX2_choose_5 (by decide) (fun hc => ?_) (fun hc => ?_)
  · have hf := x_pos hc hf
    exact jSpeech_choose_1_b13_ok B x4 S hf hw (lv_sub hl [0, 4] rfl)
  · have hf := x_neg hc hf
    refine lv_iload_n hx hb dX2_choose_8 rfl (lv_at hl 2 rfl) ?_
    refine lv_iconst (v := 3) hx hb dX2_choose_9 (by decide) ?_
    refine lv_icmp_lt (tgt := 20) hx hb dX2_choose_10 (by decide) (fun hc => ?_) (fun hc => ?_)
    · have hf := x_pos hc hf
      refine lv_iload_n hx hb dX2_choose_20 rfl (lv_at hl 3 rfl) ?_
      refine lv_iload_n hx hb dX2_choose_21 rfl (lv_at hl 2 rfl) ?_
      refine lv_ishr hx hb dX2_choose_22 ?_
      refine lv_iconst (v := 1) hx hb dX2_choose_23 (by decide) ?_
      refine lv_iand hx hb dX2_choose_24 ?_
      refine lv_if_ne (tgt := 40) hx hb dX2_choose_25 (by decide) (fun hc => ?_) (fun hc => ?_)
      · have hf := x_neg hc hf
        refine lv_iconst (v := 0) hx hb dX2_choose_40 (by decide) ?_
        refine lv_istore (lv' := [(5, .int 0), (0, .ref (q 31)), (1, .ref (q 14)), (2, .int x2), (3, .int x3), (4, .int x4)]) hx hb dX2_choose_41 hl (by decide) rfl (fun ls hl => ?_)
        exact jSpeech_choose_1_h43_ok B FU x2 x3 x4 0 S _ _ _ hf hw (lv_sub hl [1, 2, 3, 4, 5, 0] rfl)
      · have hf := x_pos hc hf
        refine lv_aload_n hx hb dX2_choose_28 rfl (lv_at hl 0 rfl) ?_
        refine lv_aload_n hx hb dX2_choose_29 rfl (lv_at hl 1 rfl) ?_
        refine lv_iload_n hx hb dX2_choose_30 rfl (lv_at hl 2 rfl) ?_
        refine lv_iconst (v := 1) hx hb dX2_choose_31 (by decide) ?_
        refine lv_iadd hx hb dX2_choose_32 ?_
        refine lv_iload_n hx hb dX2_choose_33 rfl (lv_at hl 3 rfl) ?_
        refine lv_iload hx hb dX2_choose_34 (lv_at hl 4 rfl) ?_
        obtain ⟨S11, hc, hf⟩ := x_bv_some hf
        refine x_callS B ExC_ok hw (As := [.ref (q 31), .ref (q 14), .int (x2 + 1), .int x3, .int x4]) (rest := []) (st1 := []) (jSpeech_choose_0_ok hc) u489 u490 u43 u491 hdX2_choose rfl ⟨Nat.le_of_ble_eq_true rfl, Nat.le_of_ble_eq_true rfl⟩ ⟨rfl, rfl⟩ hl.1 (Nat.le_of_ble_eq_true rfl) dX2_choose_36 (fun H locs hw => ?_) rfl rfl
        exact x_vret B hw hf dX2_choose_39
    · have hf := x_neg hc hf
      exact jSpeech_choose_1_b13_ok B x4 S hf hw (lv_sub hl [0, 4] rfl)

set_option maxHeartbeats 4000000 in
theorem jSpeech_choose_1_ok {x2 : Int32} {x3 : Int32} {x4 : Int32} {S SF : St} (hf : jSpeech_choose_1 x2 x3 x4 S = some SF) : XMet l D 40 (cellC T q) q T (ExC aK aV) yX2_choose cX2_choose 6 none ({ frames := 2, cells := 0, slots := 0, locals := 45 }) [.ref (q 31), .ref (q 14), .int x2, .int x3, .int x4] S none SF := by
  refine x_enter (own := RX2) (by decide +kernel) rfl (Nat.le_of_ble_eq_true rfl) (fun p e s m below meth c A B ls hw hl0 => ?_)
  have hl : lv_has ls 6 [(0, .ref (q 31)), (1, .ref (q 14)), (2, .int x2), (3, .int x3), (4, .int x4)] := hl0
  exact jSpeech_choose_1_b0_ok B x2 x3 x4 S hf hw hl

set_option maxHeartbeats 4000000 in
theorem jSpeech_choose_2_b13_ok (B : XB p s m args meth c A cX2_choose 6 none RX2) {SF : St}  (x4 : Int32) (S : St) {H : Heap} {locs : List Loc} {ls : Array Slot} (hf : jSpeech_choose_2_b13 x4 S = some SF) (hw : Xw D 40 (cellC T q) q T (ExC aK aV) A s S H locs) (hl : lv_has ls 6 [(0, .ref (q 31)), (4, .int x4)]) : XG p l e ({ frames := 3, cells := 0, slots := 0, locals := 70 }) s m args below meth c D 40 (cellC T q) q T A SF none H locs 13 ls [] := by
  unfold jSpeech_choose_2_b13 at hf
  obtain ⟨hx, hb, hr, hml, hown, hts, hlk, hA⟩ := id B
  refine lv_aload_n hx hb dX2_choose_13 rfl (lv_at hl 0 rfl) ?_
  refine lv_iload hx hb dX2_choose_14 (lv_at hl 1 rfl) ?_
  obtain ⟨S1, hc, hf⟩ := x_bv_some hf
  refine x_callV B ExC_ok hw 31 (by decide) rfl rfl (As := [.int x4]) (rest := []) (st1 := []) (jSpeech_compare_ok hc) u492 u494 u7 u43 u495 hdX2_compare rfl ⟨Nat.le_of_ble_eq_true rfl, Nat.le_of_ble_eq_true rfl⟩ ⟨rfl, rfl⟩ hl.1 (Nat.le_of_ble_eq_true rfl) dX2_choose_16 (fun H locs hw => ?_) rfl rfl
  exact x_vret B hw hf dX2_choose_19

set_option maxHeartbeats 4000000 in
theorem jSpeech_choose_2_b43_ok (B : XB p s m args meth c A cX2_choose 6 none RX2) {SF : St} (K43 : Int32 → Int32 → Int32 → Int32 → St → Option (St)) (hK43 : ∀ (x2 : Int32) (x3 : Int32) (x4 : Int32) (x5 : Int32) (S : St) (H : Heap) (locs : List Loc) (ls : Array Slot), K43 x2 x3 x4 x5 S = some SF → Xw D 40 (cellC T q) q T (ExC aK aV) A s S H locs → lv_has ls 6 [(0, .ref (q 31)), (1, .ref (q 14)), (2, .int x2), (3, .int x3), (4, .int x4), (5, .int x5)] → XG p l e ({ frames := 3, cells := 0, slots := 0, locals := 70 }) s m args below meth c D 40 (cellC T q) q T A SF none H locs 43 ls [])  (x2 : Int32) (x3 : Int32) (x4 : Int32) (x5 : Int32) (S : St) {H : Heap} {locs : List Loc} {ls : Array Slot} (hf : jSpeech_choose_2_b43 K43 x2 x3 x4 x5 S = some SF) (hw : Xw D 40 (cellC T q) q T (ExC aK aV) A s S H locs) (hl : lv_has ls 6 [(0, .ref (q 31)), (1, .ref (q 14)), (2, .int x2), (3, .int x3), (4, .int x4), (5, .int x5)]) : XG p l e ({ frames := 3, cells := 0, slots := 0, locals := 70 }) s m args below meth c D 40 (cellC T q) q T A SF none H locs 43 ls [] := by
  unfold jSpeech_choose_2_b43 at hf
  obtain ⟨hx, hb, hr, hml, hown, hts, hlk, hA⟩ := id B
  refine lv_iload hx hb dX2_choose_43 (lv_at hl 5 rfl) ?_
  refine lv_aload_n hx hb dX2_choose_45 rfl (lv_at hl 1 rfl) ?_
  refine x_get B hw (Tb := TX1) inX1 14 (by decide) rfl rfl 4 (by decide) u114 (fun _ h => h) rfl dX2_choose_46 ?_
  refine lv_icmp_ge (tgt := 137) hx hb dX2_choose_49 (by decide) (fun hc => ?_) (fun hc => ?_)
  · have hf := x_pos hc hf
    exact x_vret B hw hf dX2_choose_137
  · have hf := x_neg hc hf
    refine lv_aload_n hx hb dX2_choose_52 rfl (lv_at hl 1 rfl) ?_
    refine x_get B hw (Tb := TX1) inX1 14 (by decide) rfl rfl 3 (by decide) u110 (fun _ h => h) rfl dX2_choose_53 ?_
    refine lv_iload hx hb dX2_choose_56 (lv_at hl 5 rfl) ?_
    refine x_iald B hw 18 (by decide) rfl dX2_choose_58 hf (fun v2 hf => ?_)
    refine lv_aload_n hx hb dX2_choose_59 rfl (lv_at hl 0 rfl) ?_
    refine x_get B hw (Tb := TX2) inX2 31 (by decide) rfl rfl 0 (by decide) u193 (fun _ h => h) rfl dX2_choose_60 ?_
    refine lv_iload_n hx hb dX2_choose_63 rfl (lv_at hl 2 rfl) ?_
    refine x_iald B hw 32 (by decide) rfl dX2_choose_64 hf (fun v3 hf => ?_)
    refine lv_icmp_ne (tgt := 131) hx hb dX2_choose_65 (by decide) (fun hc => ?_) (fun hc => ?_)
    · have hf := x_neg hc hf
      refine lv_iinc (v := x5 + 1) (lv' := [(5, .int (x5 + 1)), (0, .ref (q 31)), (1, .ref (q 14)), (2, .int x2), (3, .int x3), (4, .int x4)]) hx hb dX2_choose_131 hl (k := 5) rfl xi_1 (by decide) rfl (fun ls hl => ?_)
      refine lv_goto (tgt := 43) hx hb dX2_choose_134 (by decide) ?_
      exact hK43 x2 x3 x4 (x5 + 1) S _ _ _ hf hw (lv_sub hl [1, 2, 3, 4, 5, 0] rfl)
    · have hf := x_pos hc hf
      refine lv_aload_n hx hb dX2_choose_68 rfl (lv_at hl 1 rfl) ?_
      refine lv_iload hx hb dX2_choose_69 (lv_at hl 5 rfl) ?_
      refine lv_aload_n hx hb dX2_choose_71 rfl (lv_at hl 0 rfl) ?_
      refine x_get B hw (Tb := TX2) inX2 31 (by decide) rfl rfl 3 (by decide) u197 (fun _ h => h) rfl dX2_choose_72 ?_
      obtain ⟨v5, S4, hc, hf⟩ := x_bd_some hf
      refine x_callV B ExC_ok hw 14 (by decide) rfl rfl (As := [.int x5, .ref (q 35)]) (rest := []) (st1 := [.int v5]) (jMenu_fits_35_ok hc) u496 u436 u437 u41 u438 hdX1_fits rfl ⟨Nat.le_of_ble_eq_true rfl, Nat.le_of_ble_eq_true rfl⟩ ⟨rfl, rfl⟩ hl.1 (Nat.le_of_ble_eq_true rfl) dX2_choose_75 (fun H locs hw => ?_) rfl rfl
      refine lv_if_ne (tgt := 84) hx hb dX2_choose_78 (by decide) (fun hc => ?_) (fun hc => ?_)
      · have hf := x_neg hc hf
        refine lv_aload_n hx hb dX2_choose_84 rfl (lv_at hl 0 rfl) ?_
        refine x_get B hw (Tb := TX2) inX2 31 (by decide) rfl rfl 1 (by decide) u194 (fun _ h => h) rfl dX2_choose_85 ?_
        refine lv_iload_n hx hb dX2_choose_88 rfl (lv_at hl 2 rfl) ?_
        refine lv_iload hx hb dX2_choose_89 (lv_at hl 5 rfl) ?_
        refine x_iast B hw 33 (by decide) (fun _ _ => rfl) dX2_choose_91 hf (fun S6 H locs hw hf => ?_)
        refine lv_aload_n hx hb dX2_choose_92 rfl (lv_at hl 1 rfl) ?_
        refine lv_iload hx hb dX2_choose_93 (lv_at hl 5 rfl) ?_
        refine lv_aload_n hx hb dX2_choose_95 rfl (lv_at hl 0 rfl) ?_
        refine x_get B hw (Tb := TX2) inX2 31 (by decide) rfl rfl 3 (by decide) u197 (fun _ h => h) rfl dX2_choose_96 ?_
        obtain ⟨S7, hc, hf⟩ := x_bv_some hf
        refine x_callV B ExC_ok hw 14 (by decide) rfl rfl (As := [.int x5, .ref (q 35)]) (rest := []) (st1 := []) (jMenu_take_35_ok hc) u497 u498 u499 u41 u500 hdX1_take rfl ⟨Nat.le_of_ble_eq_true rfl, Nat.le_of_ble_eq_true rfl⟩ ⟨rfl, rfl⟩ hl.1 (Nat.le_of_ble_eq_true rfl) dX2_choose_99 (fun H locs hw => ?_) rfl rfl
        refine lv_aload_n hx hb dX2_choose_102 rfl (lv_at hl 0 rfl) ?_
        refine lv_aload_n hx hb dX2_choose_103 rfl (lv_at hl 1 rfl) ?_
        refine lv_iload_n hx hb dX2_choose_104 rfl (lv_at hl 2 rfl) ?_
        refine lv_iconst (v := 1) hx hb dX2_choose_105 (by decide) ?_
        refine lv_iadd hx hb dX2_choose_106 ?_
        refine lv_iload_n hx hb dX2_choose_107 rfl (lv_at hl 3 rfl) ?_
        refine lv_iload hx hb dX2_choose_108 (lv_at hl 4 rfl) ?_
        refine lv_aload_n hx hb dX2_choose_110 rfl (lv_at hl 1 rfl) ?_
        refine x_get B hw (Tb := TX1) inX1 14 (by decide) rfl rfl 1 (by decide) u104 (fun _ h => h) rfl dX2_choose_111 ?_
        refine lv_iload hx hb dX2_choose_114 (lv_at hl 5 rfl) ?_
        refine x_iald B hw 16 (by decide) rfl dX2_choose_116 hf (fun v8 hf => ?_)
        refine lv_iadd hx hb dX2_choose_117 ?_
        obtain ⟨S9, hc, hf⟩ := x_bv_some hf
        refine x_callS B ExC_ok hw (As := [.ref (q 31), .ref (q 14), .int (x2 + 1), .int x3, .int (x4 + v8)]) (rest := []) (st1 := []) (jSpeech_choose_1_ok hc) u489 u490 u43 u491 hdX2_choose rfl ⟨Nat.le_of_ble_eq_true rfl, Nat.le_of_ble_eq_true rfl⟩ ⟨rfl, rfl⟩ hl.1 (Nat.le_of_ble_eq_true rfl) dX2_choose_118 (fun H locs hw => ?_) rfl rfl
        refine lv_aload_n hx hb dX2_choose_121 rfl (lv_at hl 1 rfl) ?_
        refine lv_iload hx hb dX2_choose_122 (lv_at hl 5 rfl) ?_
        refine lv_aload_n hx hb dX2_choose_124 rfl (lv_at hl 0 rfl) ?_
        refine x_get B hw (Tb := TX2) inX2 31 (by decide) rfl rfl 3 (by decide) u197 (fun _ h => h) rfl dX2_choose_125 ?_
        obtain ⟨S10, hc, hf⟩ := x_bv_some hf
        refine x_callV B ExC_ok hw 14 (by decide) rfl rfl (As := [.int x5, .ref (q 35)]) (rest := []) (st1 := []) (jMenu_putBack_ok hc) u501 u502 u503 u41 u504 hdX1_putBack rfl ⟨Nat.le_of_ble_eq_true rfl, Nat.le_of_ble_eq_true rfl⟩ ⟨rfl, rfl⟩ hl.1 (Nat.le_of_ble_eq_true rfl) dX2_choose_128 (fun H locs hw => ?_) rfl rfl
        refine lv_iinc (v := x5 + 1) (lv' := [(5, .int (x5 + 1)), (0, .ref (q 31)), (1, .ref (q 14)), (2, .int x2), (3, .int x3), (4, .int x4)]) hx hb dX2_choose_131 hl (k := 5) rfl xi_1 (by decide) rfl (fun ls hl => ?_)
        refine lv_goto (tgt := 43) hx hb dX2_choose_134 (by decide) ?_
        exact hK43 x2 x3 x4 (x5 + 1) S10 _ _ _ hf hw (lv_sub hl [1, 2, 3, 4, 5, 0] rfl)
      · have hf := x_pos hc hf
        refine lv_goto (tgt := 131) hx hb dX2_choose_81 (by decide) ?_
        refine lv_iinc (v := x5 + 1) (lv' := [(5, .int (x5 + 1)), (0, .ref (q 31)), (1, .ref (q 14)), (2, .int x2), (3, .int x3), (4, .int x4)]) hx hb dX2_choose_131 hl (k := 5) rfl xi_1 (by decide) rfl (fun ls hl => ?_)
        refine lv_goto (tgt := 43) hx hb dX2_choose_134 (by decide) ?_
        exact hK43 x2 x3 x4 (x5 + 1) S4 _ _ _ hf hw (lv_sub hl [1, 2, 3, 4, 5, 0] rfl)

theorem jSpeech_choose_2_h43_ok (B : XB p s m args meth c A cX2_choose 6 none RX2) {SF : St} : ∀ (n : Nat) (x2 : Int32) (x3 : Int32) (x4 : Int32) (x5 : Int32) (S : St) (H : Heap) (locs : List Loc) (ls : Array Slot), jSpeech_choose_2_h43 n x2 x3 x4 x5 S = some SF → Xw D 40 (cellC T q) q T (ExC aK aV) A s S H locs → lv_has ls 6 [(0, .ref (q 31)), (1, .ref (q 14)), (2, .int x2), (3, .int x3), (4, .int x4), (5, .int x5)] → XG p l e ({ frames := 3, cells := 0, slots := 0, locals := 70 }) s m args below meth c D 40 (cellC T q) q T A SF none H locs 43 ls [] := by
  intro n
  induction n with
  | zero =>
    intro x2 x3 x4 x5 S H locs ls hf hw hl
    rw [jSpeech_choose_2_h43] at hf
    cases hf
  | succ n ih =>
    intro x2 x3 x4 x5 S H locs ls hf hw hl
    rw [jSpeech_choose_2_h43] at hf
    exact jSpeech_choose_2_b43_ok B (jSpeech_choose_2_h43 n) ih x2 x3 x4 x5 S hf hw hl

set_option maxHeartbeats 4000000 in
theorem jSpeech_choose_2_b0_ok (B : XB p s m args meth c A cX2_choose 6 none RX2) {SF : St}  (x2 : Int32) (x3 : Int32) (x4 : Int32) (S : St) {H : Heap} {locs : List Loc} {ls : Array Slot} (hf : jSpeech_choose_2 x2 x3 x4 S = some SF) (hw : Xw D 40 (cellC T q) q T (ExC aK aV) A s S H locs) (hl : lv_has ls 6 [(0, .ref (q 31)), (1, .ref (q 14)), (2, .int x2), (3, .int x3), (4, .int x4)]) : XG p l e ({ frames := 3, cells := 0, slots := 0, locals := 70 }) s m args below meth c D 40 (cellC T q) q T A SF none H locs 0 ls [] := by
  unfold jSpeech_choose_2 at hf
  obtain ⟨hx, hb, hr, hml, hown, hts, hlk, hA⟩ := id B
  refine lv_iload_n hx hb dX2_choose_0 rfl (lv_at hl 2 rfl) ?_
  refine lv_aload_n hx hb dX2_choose_1 rfl (lv_at hl 0 rfl) ?_
  refine x_get B hw (Tb := TX2) inX2 31 (by decide) rfl rfl 4 (by decide) u199 (fun _ h => h) rfl dX2_choose_2 ?_
  refine lv_icmp_ge (tgt := 13) hx hb dX2_choose_5 (by decide) (fun hc => ?_) (fun hc => ?_)
  · have hf := x_pos hc hf
    exact jSpeech_choose_2_b13_ok B x4 S hf hw (lv_sub hl [0, 4] rfl)
  · have hf := x_neg hc hf
    refine lv_iload_n hx hb dX2_choose_8 rfl (lv_at hl 2 rfl) ?_
    refine lv_iconst (v := 3) hx hb dX2_choose_9 (by decide) ?_
    refine lv_icmp_lt (tgt := 20) hx hb dX2_choose_10 (by decide) (fun hc => ?_) (fun hc => ?_)
    · have hf := x_pos hc hf
      refine lv_iload_n hx hb dX2_choose_20 rfl (lv_at hl 3 rfl) ?_
      refine lv_iload_n hx hb dX2_choose_21 rfl (lv_at hl 2 rfl) ?_
      refine lv_ishr hx hb dX2_choose_22 ?_
      refine lv_iconst (v := 1) hx hb dX2_choose_23 (by decide) ?_
      refine lv_iand hx hb dX2_choose_24 ?_
      refine lv_if_ne (tgt := 40) hx hb dX2_choose_25 (by decide) (fun hc => ?_) (fun hc => ?_)
      · have hf := x_neg hc hf
        refine lv_iconst (v := 0) hx hb dX2_choose_40 (by decide) ?_
        refine lv_istore (lv' := [(5, .int 0), (0, .ref (q 31)), (1, .ref (q 14)), (2, .int x2), (3, .int x3), (4, .int x4)]) hx hb dX2_choose_41 hl (by decide) rfl (fun ls hl => ?_)
        exact jSpeech_choose_2_h43_ok B FU x2 x3 x4 0 S _ _ _ hf hw (lv_sub hl [1, 2, 3, 4, 5, 0] rfl)
      · have hf := x_pos hc hf
        refine lv_aload_n hx hb dX2_choose_28 rfl (lv_at hl 0 rfl) ?_
        refine lv_aload_n hx hb dX2_choose_29 rfl (lv_at hl 1 rfl) ?_
        refine lv_iload_n hx hb dX2_choose_30 rfl (lv_at hl 2 rfl) ?_
        refine lv_iconst (v := 1) hx hb dX2_choose_31 (by decide) ?_
        refine lv_iadd hx hb dX2_choose_32 ?_
        refine lv_iload_n hx hb dX2_choose_33 rfl (lv_at hl 3 rfl) ?_
        refine lv_iload hx hb dX2_choose_34 (lv_at hl 4 rfl) ?_
        obtain ⟨S11, hc, hf⟩ := x_bv_some hf
        refine x_callS B ExC_ok hw (As := [.ref (q 31), .ref (q 14), .int (x2 + 1), .int x3, .int x4]) (rest := []) (st1 := []) (jSpeech_choose_1_ok hc) u489 u490 u43 u491 hdX2_choose rfl ⟨Nat.le_of_ble_eq_true rfl, Nat.le_of_ble_eq_true rfl⟩ ⟨rfl, rfl⟩ hl.1 (Nat.le_of_ble_eq_true rfl) dX2_choose_36 (fun H locs hw => ?_) rfl rfl
        exact x_vret B hw hf dX2_choose_39
    · have hf := x_neg hc hf
      exact jSpeech_choose_2_b13_ok B x4 S hf hw (lv_sub hl [0, 4] rfl)

set_option maxHeartbeats 4000000 in
theorem jSpeech_choose_2_ok {x2 : Int32} {x3 : Int32} {x4 : Int32} {S SF : St} (hf : jSpeech_choose_2 x2 x3 x4 S = some SF) : XMet l D 40 (cellC T q) q T (ExC aK aV) yX2_choose cX2_choose 6 none ({ frames := 3, cells := 0, slots := 0, locals := 70 }) [.ref (q 31), .ref (q 14), .int x2, .int x3, .int x4] S none SF := by
  refine x_enter (own := RX2) (by decide +kernel) rfl (Nat.le_of_ble_eq_true rfl) (fun p e s m below meth c A B ls hw hl0 => ?_)
  have hl : lv_has ls 6 [(0, .ref (q 31)), (1, .ref (q 14)), (2, .int x2), (3, .int x3), (4, .int x4)] := hl0
  exact jSpeech_choose_2_b0_ok B x2 x3 x4 S hf hw hl

set_option maxHeartbeats 4000000 in
theorem jSpeech_choose_3_b13_ok (B : XB p s m args meth c A cX2_choose 6 none RX2) {SF : St}  (x4 : Int32) (S : St) {H : Heap} {locs : List Loc} {ls : Array Slot} (hf : jSpeech_choose_3_b13 x4 S = some SF) (hw : Xw D 40 (cellC T q) q T (ExC aK aV) A s S H locs) (hl : lv_has ls 6 [(0, .ref (q 31)), (4, .int x4)]) : XG p l e ({ frames := 4, cells := 0, slots := 0, locals := 95 }) s m args below meth c D 40 (cellC T q) q T A SF none H locs 13 ls [] := by
  unfold jSpeech_choose_3_b13 at hf
  obtain ⟨hx, hb, hr, hml, hown, hts, hlk, hA⟩ := id B
  refine lv_aload_n hx hb dX2_choose_13 rfl (lv_at hl 0 rfl) ?_
  refine lv_iload hx hb dX2_choose_14 (lv_at hl 1 rfl) ?_
  obtain ⟨S1, hc, hf⟩ := x_bv_some hf
  refine x_callV B ExC_ok hw 31 (by decide) rfl rfl (As := [.int x4]) (rest := []) (st1 := []) (jSpeech_compare_ok hc) u492 u494 u7 u43 u495 hdX2_compare rfl ⟨Nat.le_of_ble_eq_true rfl, Nat.le_of_ble_eq_true rfl⟩ ⟨rfl, rfl⟩ hl.1 (Nat.le_of_ble_eq_true rfl) dX2_choose_16 (fun H locs hw => ?_) rfl rfl
  exact x_vret B hw hf dX2_choose_19

set_option maxHeartbeats 4000000 in
theorem jSpeech_choose_3_b43_ok (B : XB p s m args meth c A cX2_choose 6 none RX2) {SF : St} (K43 : Int32 → Int32 → Int32 → Int32 → St → Option (St)) (hK43 : ∀ (x2 : Int32) (x3 : Int32) (x4 : Int32) (x5 : Int32) (S : St) (H : Heap) (locs : List Loc) (ls : Array Slot), K43 x2 x3 x4 x5 S = some SF → Xw D 40 (cellC T q) q T (ExC aK aV) A s S H locs → lv_has ls 6 [(0, .ref (q 31)), (1, .ref (q 14)), (2, .int x2), (3, .int x3), (4, .int x4), (5, .int x5)] → XG p l e ({ frames := 4, cells := 0, slots := 0, locals := 95 }) s m args below meth c D 40 (cellC T q) q T A SF none H locs 43 ls [])  (x2 : Int32) (x3 : Int32) (x4 : Int32) (x5 : Int32) (S : St) {H : Heap} {locs : List Loc} {ls : Array Slot} (hf : jSpeech_choose_3_b43 K43 x2 x3 x4 x5 S = some SF) (hw : Xw D 40 (cellC T q) q T (ExC aK aV) A s S H locs) (hl : lv_has ls 6 [(0, .ref (q 31)), (1, .ref (q 14)), (2, .int x2), (3, .int x3), (4, .int x4), (5, .int x5)]) : XG p l e ({ frames := 4, cells := 0, slots := 0, locals := 95 }) s m args below meth c D 40 (cellC T q) q T A SF none H locs 43 ls [] := by
  unfold jSpeech_choose_3_b43 at hf
  obtain ⟨hx, hb, hr, hml, hown, hts, hlk, hA⟩ := id B
  refine lv_iload hx hb dX2_choose_43 (lv_at hl 5 rfl) ?_
  refine lv_aload_n hx hb dX2_choose_45 rfl (lv_at hl 1 rfl) ?_
  refine x_get B hw (Tb := TX1) inX1 14 (by decide) rfl rfl 4 (by decide) u114 (fun _ h => h) rfl dX2_choose_46 ?_
  refine lv_icmp_ge (tgt := 137) hx hb dX2_choose_49 (by decide) (fun hc => ?_) (fun hc => ?_)
  · have hf := x_pos hc hf
    exact x_vret B hw hf dX2_choose_137
  · have hf := x_neg hc hf
    refine lv_aload_n hx hb dX2_choose_52 rfl (lv_at hl 1 rfl) ?_
    refine x_get B hw (Tb := TX1) inX1 14 (by decide) rfl rfl 3 (by decide) u110 (fun _ h => h) rfl dX2_choose_53 ?_
    refine lv_iload hx hb dX2_choose_56 (lv_at hl 5 rfl) ?_
    refine x_iald B hw 18 (by decide) rfl dX2_choose_58 hf (fun v2 hf => ?_)
    refine lv_aload_n hx hb dX2_choose_59 rfl (lv_at hl 0 rfl) ?_
    refine x_get B hw (Tb := TX2) inX2 31 (by decide) rfl rfl 0 (by decide) u193 (fun _ h => h) rfl dX2_choose_60 ?_
    refine lv_iload_n hx hb dX2_choose_63 rfl (lv_at hl 2 rfl) ?_
    refine x_iald B hw 32 (by decide) rfl dX2_choose_64 hf (fun v3 hf => ?_)
    refine lv_icmp_ne (tgt := 131) hx hb dX2_choose_65 (by decide) (fun hc => ?_) (fun hc => ?_)
    · have hf := x_neg hc hf
      refine lv_iinc (v := x5 + 1) (lv' := [(5, .int (x5 + 1)), (0, .ref (q 31)), (1, .ref (q 14)), (2, .int x2), (3, .int x3), (4, .int x4)]) hx hb dX2_choose_131 hl (k := 5) rfl xi_1 (by decide) rfl (fun ls hl => ?_)
      refine lv_goto (tgt := 43) hx hb dX2_choose_134 (by decide) ?_
      exact hK43 x2 x3 x4 (x5 + 1) S _ _ _ hf hw (lv_sub hl [1, 2, 3, 4, 5, 0] rfl)
    · have hf := x_pos hc hf
      refine lv_aload_n hx hb dX2_choose_68 rfl (lv_at hl 1 rfl) ?_
      refine lv_iload hx hb dX2_choose_69 (lv_at hl 5 rfl) ?_
      refine lv_aload_n hx hb dX2_choose_71 rfl (lv_at hl 0 rfl) ?_
      refine x_get B hw (Tb := TX2) inX2 31 (by decide) rfl rfl 3 (by decide) u197 (fun _ h => h) rfl dX2_choose_72 ?_
      obtain ⟨v5, S4, hc, hf⟩ := x_bd_some hf
      refine x_callV B ExC_ok hw 14 (by decide) rfl rfl (As := [.int x5, .ref (q 35)]) (rest := []) (st1 := [.int v5]) (jMenu_fits_35_ok hc) u496 u436 u437 u41 u438 hdX1_fits rfl ⟨Nat.le_of_ble_eq_true rfl, Nat.le_of_ble_eq_true rfl⟩ ⟨rfl, rfl⟩ hl.1 (Nat.le_of_ble_eq_true rfl) dX2_choose_75 (fun H locs hw => ?_) rfl rfl
      refine lv_if_ne (tgt := 84) hx hb dX2_choose_78 (by decide) (fun hc => ?_) (fun hc => ?_)
      · have hf := x_neg hc hf
        refine lv_aload_n hx hb dX2_choose_84 rfl (lv_at hl 0 rfl) ?_
        refine x_get B hw (Tb := TX2) inX2 31 (by decide) rfl rfl 1 (by decide) u194 (fun _ h => h) rfl dX2_choose_85 ?_
        refine lv_iload_n hx hb dX2_choose_88 rfl (lv_at hl 2 rfl) ?_
        refine lv_iload hx hb dX2_choose_89 (lv_at hl 5 rfl) ?_
        refine x_iast B hw 33 (by decide) (fun _ _ => rfl) dX2_choose_91 hf (fun S6 H locs hw hf => ?_)
        refine lv_aload_n hx hb dX2_choose_92 rfl (lv_at hl 1 rfl) ?_
        refine lv_iload hx hb dX2_choose_93 (lv_at hl 5 rfl) ?_
        refine lv_aload_n hx hb dX2_choose_95 rfl (lv_at hl 0 rfl) ?_
        refine x_get B hw (Tb := TX2) inX2 31 (by decide) rfl rfl 3 (by decide) u197 (fun _ h => h) rfl dX2_choose_96 ?_
        obtain ⟨S7, hc, hf⟩ := x_bv_some hf
        refine x_callV B ExC_ok hw 14 (by decide) rfl rfl (As := [.int x5, .ref (q 35)]) (rest := []) (st1 := []) (jMenu_take_35_ok hc) u497 u498 u499 u41 u500 hdX1_take rfl ⟨Nat.le_of_ble_eq_true rfl, Nat.le_of_ble_eq_true rfl⟩ ⟨rfl, rfl⟩ hl.1 (Nat.le_of_ble_eq_true rfl) dX2_choose_99 (fun H locs hw => ?_) rfl rfl
        refine lv_aload_n hx hb dX2_choose_102 rfl (lv_at hl 0 rfl) ?_
        refine lv_aload_n hx hb dX2_choose_103 rfl (lv_at hl 1 rfl) ?_
        refine lv_iload_n hx hb dX2_choose_104 rfl (lv_at hl 2 rfl) ?_
        refine lv_iconst (v := 1) hx hb dX2_choose_105 (by decide) ?_
        refine lv_iadd hx hb dX2_choose_106 ?_
        refine lv_iload_n hx hb dX2_choose_107 rfl (lv_at hl 3 rfl) ?_
        refine lv_iload hx hb dX2_choose_108 (lv_at hl 4 rfl) ?_
        refine lv_aload_n hx hb dX2_choose_110 rfl (lv_at hl 1 rfl) ?_
        refine x_get B hw (Tb := TX1) inX1 14 (by decide) rfl rfl 1 (by decide) u104 (fun _ h => h) rfl dX2_choose_111 ?_
        refine lv_iload hx hb dX2_choose_114 (lv_at hl 5 rfl) ?_
        refine x_iald B hw 16 (by decide) rfl dX2_choose_116 hf (fun v8 hf => ?_)
        refine lv_iadd hx hb dX2_choose_117 ?_
        obtain ⟨S9, hc, hf⟩ := x_bv_some hf
        refine x_callS B ExC_ok hw (As := [.ref (q 31), .ref (q 14), .int (x2 + 1), .int x3, .int (x4 + v8)]) (rest := []) (st1 := []) (jSpeech_choose_2_ok hc) u489 u490 u43 u491 hdX2_choose rfl ⟨Nat.le_of_ble_eq_true rfl, Nat.le_of_ble_eq_true rfl⟩ ⟨rfl, rfl⟩ hl.1 (Nat.le_of_ble_eq_true rfl) dX2_choose_118 (fun H locs hw => ?_) rfl rfl
        refine lv_aload_n hx hb dX2_choose_121 rfl (lv_at hl 1 rfl) ?_
        refine lv_iload hx hb dX2_choose_122 (lv_at hl 5 rfl) ?_
        refine lv_aload_n hx hb dX2_choose_124 rfl (lv_at hl 0 rfl) ?_
        refine x_get B hw (Tb := TX2) inX2 31 (by decide) rfl rfl 3 (by decide) u197 (fun _ h => h) rfl dX2_choose_125 ?_
        obtain ⟨S10, hc, hf⟩ := x_bv_some hf
        refine x_callV B ExC_ok hw 14 (by decide) rfl rfl (As := [.int x5, .ref (q 35)]) (rest := []) (st1 := []) (jMenu_putBack_ok hc) u501 u502 u503 u41 u504 hdX1_putBack rfl ⟨Nat.le_of_ble_eq_true rfl, Nat.le_of_ble_eq_true rfl⟩ ⟨rfl, rfl⟩ hl.1 (Nat.le_of_ble_eq_true rfl) dX2_choose_128 (fun H locs hw => ?_) rfl rfl
        refine lv_iinc (v := x5 + 1) (lv' := [(5, .int (x5 + 1)), (0, .ref (q 31)), (1, .ref (q 14)), (2, .int x2), (3, .int x3), (4, .int x4)]) hx hb dX2_choose_131 hl (k := 5) rfl xi_1 (by decide) rfl (fun ls hl => ?_)
        refine lv_goto (tgt := 43) hx hb dX2_choose_134 (by decide) ?_
        exact hK43 x2 x3 x4 (x5 + 1) S10 _ _ _ hf hw (lv_sub hl [1, 2, 3, 4, 5, 0] rfl)
      · have hf := x_pos hc hf
        refine lv_goto (tgt := 131) hx hb dX2_choose_81 (by decide) ?_
        refine lv_iinc (v := x5 + 1) (lv' := [(5, .int (x5 + 1)), (0, .ref (q 31)), (1, .ref (q 14)), (2, .int x2), (3, .int x3), (4, .int x4)]) hx hb dX2_choose_131 hl (k := 5) rfl xi_1 (by decide) rfl (fun ls hl => ?_)
        refine lv_goto (tgt := 43) hx hb dX2_choose_134 (by decide) ?_
        exact hK43 x2 x3 x4 (x5 + 1) S4 _ _ _ hf hw (lv_sub hl [1, 2, 3, 4, 5, 0] rfl)

theorem jSpeech_choose_3_h43_ok (B : XB p s m args meth c A cX2_choose 6 none RX2) {SF : St} : ∀ (n : Nat) (x2 : Int32) (x3 : Int32) (x4 : Int32) (x5 : Int32) (S : St) (H : Heap) (locs : List Loc) (ls : Array Slot), jSpeech_choose_3_h43 n x2 x3 x4 x5 S = some SF → Xw D 40 (cellC T q) q T (ExC aK aV) A s S H locs → lv_has ls 6 [(0, .ref (q 31)), (1, .ref (q 14)), (2, .int x2), (3, .int x3), (4, .int x4), (5, .int x5)] → XG p l e ({ frames := 4, cells := 0, slots := 0, locals := 95 }) s m args below meth c D 40 (cellC T q) q T A SF none H locs 43 ls [] := by
  intro n
  induction n with
  | zero =>
    intro x2 x3 x4 x5 S H locs ls hf hw hl
    rw [jSpeech_choose_3_h43] at hf
    cases hf
  | succ n ih =>
    intro x2 x3 x4 x5 S H locs ls hf hw hl
    rw [jSpeech_choose_3_h43] at hf
    exact jSpeech_choose_3_b43_ok B (jSpeech_choose_3_h43 n) ih x2 x3 x4 x5 S hf hw hl

set_option maxHeartbeats 4000000 in
theorem jSpeech_choose_3_b0_ok (B : XB p s m args meth c A cX2_choose 6 none RX2) {SF : St}  (x2 : Int32) (x3 : Int32) (x4 : Int32) (S : St) {H : Heap} {locs : List Loc} {ls : Array Slot} (hf : jSpeech_choose_3 x2 x3 x4 S = some SF) (hw : Xw D 40 (cellC T q) q T (ExC aK aV) A s S H locs) (hl : lv_has ls 6 [(0, .ref (q 31)), (1, .ref (q 14)), (2, .int x2), (3, .int x3), (4, .int x4)]) : XG p l e ({ frames := 4, cells := 0, slots := 0, locals := 95 }) s m args below meth c D 40 (cellC T q) q T A SF none H locs 0 ls [] := by
  unfold jSpeech_choose_3 at hf
  obtain ⟨hx, hb, hr, hml, hown, hts, hlk, hA⟩ := id B
  refine lv_iload_n hx hb dX2_choose_0 rfl (lv_at hl 2 rfl) ?_
  refine lv_aload_n hx hb dX2_choose_1 rfl (lv_at hl 0 rfl) ?_
  refine x_get B hw (Tb := TX2) inX2 31 (by decide) rfl rfl 4 (by decide) u199 (fun _ h => h) rfl dX2_choose_2 ?_
  refine lv_icmp_ge (tgt := 13) hx hb dX2_choose_5 (by decide) (fun hc => ?_) (fun hc => ?_)
  · have hf := x_pos hc hf
    exact jSpeech_choose_3_b13_ok B x4 S hf hw (lv_sub hl [0, 4] rfl)
  · have hf := x_neg hc hf
    refine lv_iload_n hx hb dX2_choose_8 rfl (lv_at hl 2 rfl) ?_
    refine lv_iconst (v := 3) hx hb dX2_choose_9 (by decide) ?_
    refine lv_icmp_lt (tgt := 20) hx hb dX2_choose_10 (by decide) (fun hc => ?_) (fun hc => ?_)
    · have hf := x_pos hc hf
      refine lv_iload_n hx hb dX2_choose_20 rfl (lv_at hl 3 rfl) ?_
      refine lv_iload_n hx hb dX2_choose_21 rfl (lv_at hl 2 rfl) ?_
      refine lv_ishr hx hb dX2_choose_22 ?_
      refine lv_iconst (v := 1) hx hb dX2_choose_23 (by decide) ?_
      refine lv_iand hx hb dX2_choose_24 ?_
      refine lv_if_ne (tgt := 40) hx hb dX2_choose_25 (by decide) (fun hc => ?_) (fun hc => ?_)
      · have hf := x_neg hc hf
        refine lv_iconst (v := 0) hx hb dX2_choose_40 (by decide) ?_
        refine lv_istore (lv' := [(5, .int 0), (0, .ref (q 31)), (1, .ref (q 14)), (2, .int x2), (3, .int x3), (4, .int x4)]) hx hb dX2_choose_41 hl (by decide) rfl (fun ls hl => ?_)
        exact jSpeech_choose_3_h43_ok B FU x2 x3 x4 0 S _ _ _ hf hw (lv_sub hl [1, 2, 3, 4, 5, 0] rfl)
      · have hf := x_pos hc hf
        refine lv_aload_n hx hb dX2_choose_28 rfl (lv_at hl 0 rfl) ?_
        refine lv_aload_n hx hb dX2_choose_29 rfl (lv_at hl 1 rfl) ?_
        refine lv_iload_n hx hb dX2_choose_30 rfl (lv_at hl 2 rfl) ?_
        refine lv_iconst (v := 1) hx hb dX2_choose_31 (by decide) ?_
        refine lv_iadd hx hb dX2_choose_32 ?_
        refine lv_iload_n hx hb dX2_choose_33 rfl (lv_at hl 3 rfl) ?_
        refine lv_iload hx hb dX2_choose_34 (lv_at hl 4 rfl) ?_
        obtain ⟨S11, hc, hf⟩ := x_bv_some hf
        refine x_callS B ExC_ok hw (As := [.ref (q 31), .ref (q 14), .int (x2 + 1), .int x3, .int x4]) (rest := []) (st1 := []) (jSpeech_choose_2_ok hc) u489 u490 u43 u491 hdX2_choose rfl ⟨Nat.le_of_ble_eq_true rfl, Nat.le_of_ble_eq_true rfl⟩ ⟨rfl, rfl⟩ hl.1 (Nat.le_of_ble_eq_true rfl) dX2_choose_36 (fun H locs hw => ?_) rfl rfl
        exact x_vret B hw hf dX2_choose_39
    · have hf := x_neg hc hf
      exact jSpeech_choose_3_b13_ok B x4 S hf hw (lv_sub hl [0, 4] rfl)

set_option maxHeartbeats 4000000 in
theorem jSpeech_choose_3_ok {x2 : Int32} {x3 : Int32} {x4 : Int32} {S SF : St} (hf : jSpeech_choose_3 x2 x3 x4 S = some SF) : XMet l D 40 (cellC T q) q T (ExC aK aV) yX2_choose cX2_choose 6 none ({ frames := 4, cells := 0, slots := 0, locals := 95 }) [.ref (q 31), .ref (q 14), .int x2, .int x3, .int x4] S none SF := by
  refine x_enter (own := RX2) (by decide +kernel) rfl (Nat.le_of_ble_eq_true rfl) (fun p e s m below meth c A B ls hw hl0 => ?_)
  have hl : lv_has ls 6 [(0, .ref (q 31)), (1, .ref (q 14)), (2, .int x2), (3, .int x3), (4, .int x4)] := hl0
  exact jSpeech_choose_3_b0_ok B x2 x3 x4 S hf hw hl
end
