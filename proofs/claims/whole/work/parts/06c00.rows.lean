section
variable {p : Program} {l : Launch} {e : Env} {s : State} {m : MethodId} {args : Array Value} {below : List Frame} {meth : Method} {c : Code} {D : va_G} {q aK aV : Nat → Nat} {T : Nat → ClassId} {A : Nat → Prop}
set_option maxHeartbeats 4000000 in
theorem jText_append_b0_ok (B : XB p s m args meth c A cX5_append 2 none RX5) {SF : St}  (x1 : Int32) (S : St) {H : Heap} {locs : List Loc} {ls : Array Slot} (hf : jText_append x1 S = some SF) (hw : Xw D 40 (cellC T q) q T (ExC aK aV) A s S H locs) (hl : lv_has ls 2 [(0, .ref (q 1)), (1, .int x1)]) : XG p l e ({ frames := 0, cells := 0, slots := 0, locals := 0 }) s m args below meth c D 40 (cellC T q) q T A SF none H locs 0 ls [] := by
  unfold jText_append at hf
  obtain ⟨hx, hb, hr, hml, hown, hts, hlk, hA⟩ := id B
  refine lv_aload_n hx hb dX5_append_0 rfl (lv_at hl 0 rfl) ?_
  refine x_get B hw (Tb := TX5) inX5 1 (by decide) rfl rfl 1 (by decide) u67 (fun _ h => h) rfl dX5_append_1 ?_
  refine lv_sipush (v := 300) hx hb dX5_append_4 (by decide) ?_
  refine lv_icmp_lt (tgt := 11) hx hb dX5_append_7 (by decide) (fun hc => ?_) (fun hc => ?_)
  · have hf := x_pos hc hf
    refine lv_aload_n hx hb dX5_append_11 rfl (lv_at hl 0 rfl) ?_
    refine x_get B hw (Tb := TX5) inX5 1 (by decide) rfl rfl 0 (by decide) u66 (fun _ h => h) rfl dX5_append_12 ?_
    refine lv_aload_n hx hb dX5_append_15 rfl (lv_at hl 0 rfl) ?_
    refine x_get B hw (Tb := TX5) inX5 1 (by decide) rfl rfl 1 (by decide) u67 (fun _ h => h) rfl dX5_append_16 ?_
    refine lv_iload_n hx hb dX5_append_19 rfl (lv_at hl 1 rfl) ?_
    refine x_iast B hw 2 (by decide) (fun _ _ => rfl) dX5_append_20 hf (fun S1 H locs hw hf => ?_)
    refine lv_aload_n hx hb dX5_append_21 rfl (lv_at hl 0 rfl) ?_
    refine lv_dup hx hb dX5_append_22 rfl ?_
    refine x_get B hw (Tb := TX5) inX5 1 (by decide) rfl rfl 1 (by decide) u67 (fun _ h => h) rfl dX5_append_23 ?_
    refine lv_iconst (v := 1) hx hb dX5_append_26 (by decide) ?_
    refine lv_iadd hx hb dX5_append_27 ?_
    refine x_put B hw (Tb := TX5) inX5 tyX5 tyX5_ok nmX5 1 (by decide) rfl rfl 1 (by decide) u67 (fun _ h => h) rfl (ty := .int) (by decide +kernel) rfl rfl (Nat.le_of_ble_eq_true rfl) (S1 := upI S1 1 1 ((S1.1 1 1) + 1)) rfl upI_o (fun _ _ => rfl) dX5_append_28 hf (fun S2 H locs hw hf => ?_)
    exact x_vret B hw hf dX5_append_31
  · have hf := x_neg hc hf
    exact x_vret B hw hf dX5_append_10

set_option maxHeartbeats 4000000 in
theorem jText_append_ok {x1 : Int32} {S SF : St} (hf : jText_append x1 S = some SF) : XMet l D 40 (cellC T q) q T (ExC aK aV) yX5_append cX5_append 2 none ({ frames := 0, cells := 0, slots := 0, locals := 0 }) [.ref (q 1), .int x1] S none SF := by
  refine x_enter (own := RX5) (by decide +kernel) rfl (Nat.le_of_ble_eq_true rfl) (fun p e s m below meth c A B ls hw hl0 => ?_)
  have hl : lv_has ls 2 [(0, .ref (q 1)), (1, .int x1)] := hl0
  exact jText_append_b0_ok B x1 S hf hw hl

set_option maxHeartbeats 4000000 in
theorem jSmoke_type_b36_ok (B : XB p s m args meth c A cX6_type 5 (some .int) RX6) {SF : St} {r : Int32} (K36 : Int64 → Int32 → St → Option (Int32 × St)) (hK36 : ∀ (y1 : Int64) (x4 : Int32) (S : St) (H : Heap) (locs : List Loc) (ls : Array Slot), K36 y1 x4 S = some (r, SF) → Xw D 40 (cellC T q) q T (ExC aK aV) A s S H locs → lv_has ls 5 [(0, .ref (q 0)), (1, .long y1), (4, .int x4)] → XG p l e ({ frames := 1, cells := 0, slots := 0, locals := 21 }) s m args below meth c D 40 (cellC T q) q T A SF (some (.int r)) H locs 36 ls [])  (y1 : Int64) (x4 : Int32) (S : St) {H : Heap} {locs : List Loc} {ls : Array Slot} (hf : jSmoke_type_b36 K36 y1 x4 S = some (r, SF)) (hw : Xw D 40 (cellC T q) q T (ExC aK aV) A s S H locs) (hl : lv_has ls 5 [(0, .ref (q 0)), (1, .long y1), (4, .int x4)]) : XG p l e ({ frames := 1, cells := 0, slots := 0, locals := 21 }) s m args below meth c D 40 (cellC T q) q T A SF (some (.int r)) H locs 36 ls [] := by
  unfold jSmoke_type_b36 at hf
  obtain ⟨hx, hb, hr, hml, hown, hts, hlk, hA⟩ := id B
  refine lv_iload hx hb dX6_type_36 (lv_at hl 2 rfl) ?_
  refine lv_if_lt (tgt := 66) hx hb dX6_type_38 (by decide) (fun hc => ?_) (fun hc => ?_)
  · have hf := x_pos hc hf
    refine lv_aload_n hx hb dX6_type_66 rfl (lv_at hl 0 rfl) ?_
    refine x_get B hw (Tb := TX6) inX6 0 (by decide) rfl rfl 0 (by decide) u230 (fun _ h => h) rfl dX6_type_67 ?_
    refine x_get B hw (Tb := TX5) inX5 1 (by decide) rfl rfl 1 (by decide) u68 (fun _ h => h) rfl dX6_type_70 ?_
    exact x_iret B hw hf dX6_type_73
  · have hf := x_neg hc hf
    refine lv_aload_n hx hb dX6_type_41 rfl (lv_at hl 0 rfl) ?_
    refine x_get B hw (Tb := TX6) inX6 0 (by decide) rfl rfl 0 (by decide) u230 (fun _ h => h) rfl dX6_type_42 ?_
    refine lv_lload_n hx hb dX6_type_45 rfl (lv_at hl 1 rfl) ?_
    refine lv_bipush (v := 8) hx hb dX6_type_46 (by decide) ?_
    refine lv_iload hx hb dX6_type_48 (lv_at hl 2 rfl) ?_
    refine lv_imul hx hb dX6_type_50 ?_
    refine lv_lushr (v := x_lushr y1 (8 * x4)) hx hb dX6_type_51 rfl ?_
    refine lv_l2i (v := Int64.toInt32 (x_lushr y1 (8 * x4))) hx hb dX6_type_52 rfl ?_
    refine lv_sipush (v := 255) hx hb dX6_type_53 (by decide) ?_
    refine lv_iand hx hb dX6_type_56 ?_
    obtain ⟨S2, hc, hf⟩ := x_bv_some hf
    refine x_callV B ExC_ok hw 1 (by decide) rfl rfl (As := [.int ((Int64.toInt32 (x_lushr y1 (8 * x4))) &&& 255)]) (rest := []) (st1 := []) (jText_append_ok hc) u265 u266 u267 u39 u268 hdX5_append rfl ⟨Nat.le_of_ble_eq_true rfl, Nat.le_of_ble_eq_true rfl⟩ ⟨rfl, rfl⟩ hl.1 (Nat.le_of_ble_eq_true rfl) dX6_type_57 (fun H locs hw => ?_) rfl rfl
    refine lv_iinc (v := x4 + (-1)) (lv' := [(4, .int (x4 + (-1))), (0, .ref (q 0)), (1, .long y1)]) hx hb dX6_type_60 hl (k := 2) rfl xi_m1 (by decide) rfl (fun ls hl => ?_)
    refine lv_goto (tgt := 36) hx hb dX6_type_63 (by decide) ?_
    exact hK36 y1 (x4 + (-1)) S2 _ _ _ hf hw (lv_sub hl [1, 2, 0] rfl)

theorem jSmoke_type_h36_ok (B : XB p s m args meth c A cX6_type 5 (some .int) RX6) {SF : St} {r : Int32} : ∀ (n : Nat) (y1 : Int64) (x4 : Int32) (S : St) (H : Heap) (locs : List Loc) (ls : Array Slot), jSmoke_type_h36 n y1 x4 S = some (r, SF) → Xw D 40 (cellC T q) q T (ExC aK aV) A s S H locs → lv_has ls 5 [(0, .ref (q 0)), (1, .long y1), (4, .int x4)] → XG p l e ({ frames := 1, cells := 0, slots := 0, locals := 21 }) s m args below meth c D 40 (cellC T q) q T A SF (some (.int r)) H locs 36 ls [] := by
  intro n
  induction n with
  | zero =>
    intro y1 x4 S H locs ls hf hw hl
    rw [jSmoke_type_h36] at hf
    cases hf
  | succ n ih =>
    intro y1 x4 S H locs ls hf hw hl
    rw [jSmoke_type_h36] at hf
    exact jSmoke_type_b36_ok B (jSmoke_type_h36 n) ih y1 x4 S hf hw hl

set_option maxHeartbeats 4000000 in
theorem jSmoke_type_b0_ok (B : XB p s m args meth c A cX6_type 5 (some .int) RX6) {SF : St} {r : Int32}  (y1 : Int64) (x3 : Int32) (S : St) {H : Heap} {locs : List Loc} {ls : Array Slot} (hf : jSmoke_type y1 x3 S = some (r, SF)) (hw : Xw D 40 (cellC T q) q T (ExC aK aV) A s S H locs) (hl : lv_has ls 5 [(0, .ref (q 0)), (1, .long y1), (3, .int x3)]) : XG p l e ({ frames := 1, cells := 0, slots := 0, locals := 21 }) s m args below meth c D 40 (cellC T q) q T A SF (some (.int r)) H locs 0 ls [] := by
  unfold jSmoke_type at hf
  obtain ⟨hx, hb, hr, hml, hown, hts, hlk, hA⟩ := id B
  refine lv_iload_n hx hb dX6_type_0 rfl (lv_at hl 2 rfl) ?_
  refine lv_iconst (v := 1) hx hb dX6_type_1 (by decide) ?_
  refine lv_icmp_lt (tgt := 11) hx hb dX6_type_2 (by decide) (fun hc => ?_) (fun hc => ?_)
  · have hf := x_pos hc hf
    refine lv_iconst (v := (-1)) hx hb dX6_type_11 (by decide) ?_
    exact x_iret B hw hf dX6_type_12
  · have hf := x_neg hc hf
    refine lv_iload_n hx hb dX6_type_5 rfl (lv_at hl 2 rfl) ?_
    refine lv_bipush (v := 8) hx hb dX6_type_6 (by decide) ?_
    refine lv_icmp_le (tgt := 13) hx hb dX6_type_8 (by decide) (fun hc => ?_) (fun hc => ?_)
    · have hf := x_pos hc hf
      refine lv_aload_n hx hb dX6_type_13 rfl (lv_at hl 0 rfl) ?_
      refine x_get B hw (Tb := TX6) inX6 0 (by decide) rfl rfl 0 (by decide) u230 (fun _ h => h) rfl dX6_type_14 ?_
      refine x_get B hw (Tb := TX5) inX5 1 (by decide) rfl rfl 1 (by decide) u68 (fun _ h => h) rfl dX6_type_17 ?_
      refine lv_iload_n hx hb dX6_type_20 rfl (lv_at hl 2 rfl) ?_
      refine lv_iadd hx hb dX6_type_21 ?_
      refine lv_sipush (v := 300) hx hb dX6_type_22 (by decide) ?_
      refine lv_icmp_le (tgt := 31) hx hb dX6_type_25 (by decide) (fun hc => ?_) (fun hc => ?_)
      · have hf := x_pos hc hf
        refine lv_iload_n hx hb dX6_type_31 rfl (lv_at hl 2 rfl) ?_
        refine lv_iconst (v := 1) hx hb dX6_type_32 (by decide) ?_
        refine lv_isub hx hb dX6_type_33 ?_
        refine x_leti hf (fun v1 hf => ?_)
        refine lv_istore (lv' := [(4, .int v1), (0, .ref (q 0)), (1, .long y1), (3, .int x3)]) hx hb dX6_type_34 hl (by decide) rfl (fun ls hl => ?_)
        exact jSmoke_type_h36_ok B FU y1 v1 S _ _ _ hf hw (lv_sub hl [1, 2, 0] rfl)
      · have hf := x_neg hc hf
        refine lv_bipush (v := (-3)) hx hb dX6_type_28 (by decide) ?_
        exact x_iret B hw hf dX6_type_30
    · have hf := x_neg hc hf
      refine lv_iconst (v := (-1)) hx hb dX6_type_11 (by decide) ?_
      exact x_iret B hw hf dX6_type_12

set_option maxHeartbeats 4000000 in
theorem jSmoke_type_ok {y1 : Int64} {x3 : Int32} {S SF : St} {r : Int32} (hf : jSmoke_type y1 x3 S = some (r, SF)) : XMet l D 40 (cellC T q) q T (ExC aK aV) yX6_type cX6_type 5 (some .int) ({ frames := 1, cells := 0, slots := 0, locals := 21 }) [.ref (q 0), .long y1, .int x3] S (some (.int r)) SF := by
  refine x_enter (own := RX6) (by decide +kernel) rfl (Nat.le_of_ble_eq_true rfl) (fun p e s m below meth c A B ls hw hl0 => ?_)
  have hl : lv_has ls 5 [(0, .ref (q 0)), (1, .long y1), (3, .int x3)] := hl0
  exact jSmoke_type_b0_ok B y1 x3 S hf hw hl

set_option maxHeartbeats 4000000 in
theorem jSmoke_clear_b0_ok (B : XB p s m args meth c A cX6_clear 2 (some .int) RX6) {SF : St} {r : Int32}  (S : St) {H : Heap} {locs : List Loc} {ls : Array Slot} (hf : jSmoke_clear S = some (r, SF)) (hw : Xw D 40 (cellC T q) q T (ExC aK aV) A s S H locs) (hl : lv_has ls 2 [(0, .ref (q 0))]) : XG p l e ({ frames := 0, cells := 0, slots := 0, locals := 0 }) s m args below meth c D 40 (cellC T q) q T A SF (some (.int r)) H locs 0 ls [] := by
  unfold jSmoke_clear at hf
  obtain ⟨hx, hb, hr, hml, hown, hts, hlk, hA⟩ := id B
  refine lv_aload_n hx hb dX6_clear_0 rfl (lv_at hl 0 rfl) ?_
  refine x_get B hw (Tb := TX6) inX6 0 (by decide) rfl rfl 0 (by decide) u230 (fun _ h => h) rfl dX6_clear_1 ?_
  refine x_get B hw (Tb := TX5) inX5 1 (by decide) rfl rfl 1 (by decide) u68 (fun _ h => h) rfl dX6_clear_4 ?_
  refine x_leti hf (fun v1 hf => ?_)
  refine lv_istore_n (lv' := [(1, .int v1), (0, .ref (q 0))]) hx hb dX6_clear_7 rfl hl (by decide) rfl (fun ls hl => ?_)
  refine lv_aload_n hx hb dX6_clear_8 rfl (lv_at hl 1 rfl) ?_
  refine x_get B hw (Tb := TX6) inX6 0 (by decide) rfl rfl 0 (by decide) u230 (fun _ h => h) rfl dX6_clear_9 ?_
  refine lv_iconst (v := 0) hx hb dX6_clear_12 (by decide) ?_
  refine x_put B hw (Tb := TX5) inX5 tyX5 tyX5_ok nmX5 1 (by decide) rfl rfl 1 (by decide) u68 (fun _ h => h) rfl (ty := .int) (by decide +kernel) rfl rfl (Nat.le_of_ble_eq_true rfl) (S1 := upI S 1 1 0) rfl upI_o (fun _ _ => rfl) dX6_clear_13 hf (fun S2 H locs hw hf => ?_)
  refine lv_iload_n hx hb dX6_clear_16 rfl (lv_at hl 0 rfl) ?_
  exact x_iret B hw hf dX6_clear_17

set_option maxHeartbeats 4000000 in
theorem jSmoke_clear_ok {S SF : St} {r : Int32} (hf : jSmoke_clear S = some (r, SF)) : XMet l D 40 (cellC T q) q T (ExC aK aV) yX6_clear cX6_clear 2 (some .int) ({ frames := 0, cells := 0, slots := 0, locals := 0 }) [.ref (q 0)] S (some (.int r)) SF := by
  refine x_enter (own := RX6) (by decide +kernel) rfl (Nat.le_of_ble_eq_true rfl) (fun p e s m below meth c A B ls hw hl0 => ?_)
  have hl : lv_has ls 2 [(0, .ref (q 0))] := hl0
  exact jSmoke_clear_b0_ok B S hf hw hl

set_option maxHeartbeats 4000000 in
theorem jText_isDigit_b0_ok (B : XB p s m args meth c A cX5_isDigit 1 (some .boolean) RX5) {SF : St} {r : Int32}  (x0 : Int32) (S : St) {H : Heap} {locs : List Loc} {ls : Array Slot} (hf : jText_isDigit x0 S = some (r, SF)) (hw : Xw D 40 (cellC T q) q T (ExC aK aV) A s S H locs) (hl : lv_has ls 1 [(0, .int x0)]) : XG p l e ({ frames := 0, cells := 0, slots := 0, locals := 0 }) s m args below meth c D 40 (cellC T q) q T A SF (some (.int r)) H locs 0 ls [] := by
  unfold jText_isDigit at hf
  obtain ⟨hx, hb, hr, hml, hown, hts, hlk, hA⟩ := id B
  refine lv_iload_n hx hb dX5_isDigit_0 rfl (lv_at hl 0 rfl) ?_
  refine lv_bipush (v := 48) hx hb dX5_isDigit_1 (by decide) ?_
  refine lv_icmp_lt (tgt := 16) hx hb dX5_isDigit_3 (by decide) (fun hc => ?_) (fun hc => ?_)
  · have hf := x_pos hc hf
    refine lv_iconst (v := 0) hx hb dX5_isDigit_16 (by decide) ?_
    exact x_zret B hw hf dX5_isDigit_17
  · have hf := x_neg hc hf
    refine lv_iload_n hx hb dX5_isDigit_6 rfl (lv_at hl 0 rfl) ?_
    refine lv_bipush (v := 57) hx hb dX5_isDigit_7 (by decide) ?_
    refine lv_icmp_gt (tgt := 16) hx hb dX5_isDigit_9 (by decide) (fun hc => ?_) (fun hc => ?_)
    · have hf := x_pos hc hf
      refine lv_iconst (v := 0) hx hb dX5_isDigit_16 (by decide) ?_
      exact x_zret B hw hf dX5_isDigit_17
    · have hf := x_neg hc hf
      refine lv_iconst (v := 1) hx hb dX5_isDigit_12 (by decide) ?_
      refine lv_goto (tgt := 17) hx hb dX5_isDigit_13 (by decide) ?_
      exact x_zret B hw hf dX5_isDigit_17

set_option maxHeartbeats 4000000 in
theorem jText_isDigit_ok {x0 : Int32} {S SF : St} {r : Int32} (hf : jText_isDigit x0 S = some (r, SF)) : XMet l D 40 (cellC T q) q T (ExC aK aV) yX5_isDigit cX5_isDigit 1 (some .boolean) ({ frames := 0, cells := 0, slots := 0, locals := 0 }) [.int x0] S (some (.int r)) SF := by
  refine x_enter (own := RX5) (by decide +kernel) rfl (Nat.le_of_ble_eq_true rfl) (fun p e s m below meth c A B ls hw hl0 => ?_)
  have hl : lv_has ls 1 [(0, .int x0)] := hl0
  exact jText_isDigit_b0_ok B x0 S hf hw hl

set_option maxHeartbeats 4000000 in
theorem jText_isLetter_b0_ok (B : XB p s m args meth c A cX5_isLetter 1 (some .boolean) RX5) {SF : St} {r : Int32}  (x0 : Int32) (S : St) {H : Heap} {locs : List Loc} {ls : Array Slot} (hf : jText_isLetter x0 S = some (r, SF)) (hw : Xw D 40 (cellC T q) q T (ExC aK aV) A s S H locs) (hl : lv_has ls 1 [(0, .int x0)]) : XG p l e ({ frames := 0, cells := 0, slots := 0, locals := 0 }) s m args below meth c D 40 (cellC T q) q T A SF (some (.int r)) H locs 0 ls [] := by
  unfold jText_isLetter at hf
  obtain ⟨hx, hb, hr, hml, hown, hts, hlk, hA⟩ := id B
  refine lv_iload_n hx hb dX5_isLetter_0 rfl (lv_at hl 0 rfl) ?_
  refine lv_bipush (v := 97) hx hb dX5_isLetter_1 (by decide) ?_
  refine lv_icmp_lt (tgt := 16) hx hb dX5_isLetter_3 (by decide) (fun hc => ?_) (fun hc => ?_)
  · have hf := x_pos hc hf
    refine lv_iconst (v := 0) hx hb dX5_isLetter_16 (by decide) ?_
    exact x_zret B hw hf dX5_isLetter_17
  · have hf := x_neg hc hf
    refine lv_iload_n hx hb dX5_isLetter_6 rfl (lv_at hl 0 rfl) ?_
    refine lv_bipush (v := 122) hx hb dX5_isLetter_7 (by decide) ?_
    refine lv_icmp_gt (tgt := 16) hx hb dX5_isLetter_9 (by decide) (fun hc => ?_) (fun hc => ?_)
    · have hf := x_pos hc hf
      refine lv_iconst (v := 0) hx hb dX5_isLetter_16 (by decide) ?_
      exact x_zret B hw hf dX5_isLetter_17
    · have hf := x_neg hc hf
      refine lv_iconst (v := 1) hx hb dX5_isLetter_12 (by decide) ?_
      refine lv_goto (tgt := 17) hx hb dX5_isLetter_13 (by decide) ?_
      exact x_zret B hw hf dX5_isLetter_17

set_option maxHeartbeats 4000000 in
theorem jText_isLetter_ok {x0 : Int32} {S SF : St} {r : Int32} (hf : jText_isLetter x0 S = some (r, SF)) : XMet l D 40 (cellC T q) q T (ExC aK aV) yX5_isLetter cX5_isLetter 1 (some .boolean) ({ frames := 0, cells := 0, slots := 0, locals := 0 }) [.int x0] S (some (.int r)) SF := by
  refine x_enter (own := RX5) (by decide +kernel) rfl (Nat.le_of_ble_eq_true rfl) (fun p e s m below meth c A B ls hw hl0 => ?_)
  have hl : lv_has ls 1 [(0, .int x0)] := hl0
  exact jText_isLetter_b0_ok B x0 S hf hw hl

set_option maxHeartbeats 4000000 in
theorem jText_spells_0_b20_ok (B : XB p s m args meth c A cX5_spells 3 (some .boolean) RX5) {SF : St} {r : Int32} (K20 : Int32 → St → Option (Int32 × St)) (hK20 : ∀ (x2 : Int32) (S : St) (H : Heap) (locs : List Loc) (ls : Array Slot), K20 x2 S = some (r, SF) → Xw D 40 (cellC T q) q T (ExC aK aV) A s S H locs → lv_has ls 3 [(0, .ref (q 1)), (1, .ref (aK 0)), (2, .int x2)] → XG p l e ({ frames := 5, cells := 0, slots := 0, locals := 141 }) s m args below meth c D 40 (cellC T q) q T A SF (some (.int r)) H locs 20 ls [])  (x2 : Int32) (S : St) {H : Heap} {locs : List Loc} {ls : Array Slot} (hf : jText_spells_0_b20 K20 x2 S = some (r, SF)) (hw : Xw D 40 (cellC T q) q T (ExC aK aV) A s S H locs) (hl : lv_has ls 3 [(0, .ref (q 1)), (1, .ref (aK 0)), (2, .int x2)]) : XG p l e ({ frames := 5, cells := 0, slots := 0, locals := 141 }) s m args below meth c D 40 (cellC T q) q T A SF (some (.int r)) H locs 20 ls [] := by
  unfold jText_spells_0_b20 at hf
  obtain ⟨hx, hb, hr, hml, hown, hts, hlk, hA⟩ := id B
  refine lv_iload_n hx hb dX5_spells_20 rfl (lv_at hl 2 rfl) ?_
  refine lv_aload_n hx hb dX5_spells_21 rfl (lv_at hl 1 rfl) ?_
  refine x_callStr B ExC_ok hw.2.2.2.2.1 (i := 0) (by decide) hw (As := []) (rest := [.int x2]) (st1 := [.int 5, .int x2]) (jStr_length_ok (i := 0) (by decide) S) u308 u309 u310 u46 u311 ⟨rfl, by decide +kernel⟩ rfl ⟨Nat.le_of_ble_eq_true rfl, Nat.le_of_ble_eq_true rfl⟩ ⟨rfl, rfl⟩ hl.1 (Nat.le_of_ble_eq_true rfl) dX5_spells_22 (fun H locs hw => ?_) rfl rfl
  refine lv_icmp_ge (tgt := 55) hx hb dX5_spells_25 (by decide) (fun hc => ?_) (fun hc => ?_)
  · have hf := x_pos hc hf
    refine lv_iconst (v := 1) hx hb dX5_spells_55 (by decide) ?_
    exact x_zret B hw hf dX5_spells_56
  · have hf := x_neg hc hf
    refine lv_aload_n hx hb dX5_spells_28 rfl (lv_at hl 0 rfl) ?_
    refine x_get B hw (Tb := TX5) inX5 1 (by decide) rfl rfl 0 (by decide) u66 (fun _ h => h) rfl dX5_spells_29 ?_
    refine lv_aload_n hx hb dX5_spells_32 rfl (lv_at hl 0 rfl) ?_
    refine x_get B hw (Tb := TX5) inX5 1 (by decide) rfl rfl 3 (by decide) u71 (fun _ h => h) rfl dX5_spells_33 ?_
    refine lv_iload_n hx hb dX5_spells_36 rfl (lv_at hl 2 rfl) ?_
    refine lv_iadd hx hb dX5_spells_37 ?_
    refine x_iald B hw 2 (by decide) rfl dX5_spells_38 hf (fun v1 hf => ?_)
    refine lv_aload_n hx hb dX5_spells_39 rfl (lv_at hl 1 rfl) ?_
    refine lv_iload_n hx hb dX5_spells_40 rfl (lv_at hl 2 rfl) ?_
    obtain ⟨hin, hf⟩ := x_ld_some hf
    refine x_callStr B ExC_ok hw.2.2.2.2.1 (i := 0) (by decide) hw (n := 1) (As := [.int x2]) (rest := [.int v1]) (st1 := .int (sc_ch 0 (Int32.toNatClampNeg x2)) :: [.int v1]) (jStr_charAt_ok (i := 0) (by decide) S x2 hin) u318 u319 u320 u46 u321 ⟨rfl, by decide +kernel⟩ rfl ⟨Nat.le_of_ble_eq_true rfl, Nat.le_of_ble_eq_true rfl⟩ ⟨rfl, rfl⟩ hl.1 (Nat.le_of_ble_eq_true rfl) dX5_spells_41 (fun H locs hw => ?_) rfl rfl
    generalize sc_ch 0 (Int32.toNatClampNeg x2) = v2 at hf ⊢
    refine lv_icmp_eq (tgt := 49) hx hb dX5_spells_44 (by decide) (fun hc => ?_) (fun hc => ?_)
    · have hf := x_pos hc hf
      refine lv_iinc (v := x2 + 1) (lv' := [(2, .int (x2 + 1)), (0, .ref (q 1)), (1, .ref (aK 0))]) hx hb dX5_spells_49 hl (k := 2) rfl xi_1 (by decide) rfl (fun ls hl => ?_)
      refine lv_goto (tgt := 20) hx hb dX5_spells_52 (by decide) ?_
      exact hK20 (x2 + 1) S _ _ _ hf hw (lv_sub hl [1, 2, 0] rfl)
    · have hf := x_neg hc hf
      refine lv_iconst (v := 0) hx hb dX5_spells_47 (by decide) ?_
      exact x_zret B hw hf dX5_spells_48

theorem jText_spells_0_h20_ok (B : XB p s m args meth c A cX5_spells 3 (some .boolean) RX5) {SF : St} {r : Int32} : ∀ (n : Nat) (x2 : Int32) (S : St) (H : Heap) (locs : List Loc) (ls : Array Slot), jText_spells_0_h20 n x2 S = some (r, SF) → Xw D 40 (cellC T q) q T (ExC aK aV) A s S H locs → lv_has ls 3 [(0, .ref (q 1)), (1, .ref (aK 0)), (2, .int x2)] → XG p l e ({ frames := 5, cells := 0, slots := 0, locals := 141 }) s m args below meth c D 40 (cellC T q) q T A SF (some (.int r)) H locs 20 ls [] := by
  intro n
  induction n with
  | zero =>
    intro x2 S H locs ls hf hw hl
    rw [jText_spells_0_h20] at hf
    cases hf
  | succ n ih =>
    intro x2 S H locs ls hf hw hl
    rw [jText_spells_0_h20] at hf
    exact jText_spells_0_b20_ok B (jText_spells_0_h20 n) ih x2 S hf hw hl

set_option maxHeartbeats 4000000 in
theorem jText_spells_0_b0_ok (B : XB p s m args meth c A cX5_spells 3 (some .boolean) RX5) {SF : St} {r : Int32}  (S : St) {H : Heap} {locs : List Loc} {ls : Array Slot} (hf : jText_spells_0 S = some (r, SF)) (hw : Xw D 40 (cellC T q) q T (ExC aK aV) A s S H locs) (hl : lv_has ls 3 [(0, .ref (q 1)), (1, .ref (aK 0))]) : XG p l e ({ frames := 5, cells := 0, slots := 0, locals := 141 }) s m args below meth c D 40 (cellC T q) q T A SF (some (.int r)) H locs 0 ls [] := by
  unfold jText_spells_0 at hf
  obtain ⟨hx, hb, hr, hml, hown, hts, hlk, hA⟩ := id B
  refine lv_aload_n hx hb dX5_spells_0 rfl (lv_at hl 0 rfl) ?_
  refine x_get B hw (Tb := TX5) inX5 1 (by decide) rfl rfl 2 (by decide) u69 (fun _ h => h) rfl dX5_spells_1 ?_
  refine lv_aload_n hx hb dX5_spells_4 rfl (lv_at hl 0 rfl) ?_
  refine x_get B hw (Tb := TX5) inX5 1 (by decide) rfl rfl 3 (by decide) u71 (fun _ h => h) rfl dX5_spells_5 ?_
  refine lv_isub hx hb dX5_spells_8 ?_
  refine lv_aload_n hx hb dX5_spells_9 rfl (lv_at hl 1 rfl) ?_
  refine x_callStr B ExC_ok hw.2.2.2.2.1 (i := 0) (by decide) hw (As := []) (rest := [.int ((S.1 1 2) - (S.1 1 3))]) (st1 := [.int 5, .int ((S.1 1 2) - (S.1 1 3))]) (jStr_length_ok (i := 0) (by decide) S) u308 u309 u310 u46 u311 ⟨rfl, by decide +kernel⟩ rfl ⟨Nat.le_of_ble_eq_true rfl, Nat.le_of_ble_eq_true rfl⟩ ⟨rfl, rfl⟩ hl.1 (Nat.le_of_ble_eq_true rfl) dX5_spells_10 (fun H locs hw => ?_) rfl rfl
  refine lv_icmp_eq (tgt := 18) hx hb dX5_spells_13 (by decide) (fun hc => ?_) (fun hc => ?_)
  · have hf := x_pos hc hf
    refine lv_iconst (v := 0) hx hb dX5_spells_18 (by decide) ?_
    refine lv_istore_n (lv' := [(2, .int 0), (0, .ref (q 1)), (1, .ref (aK 0))]) hx hb dX5_spells_19 rfl hl (by decide) rfl (fun ls hl => ?_)
    exact jText_spells_0_h20_ok B FU 0 S _ _ _ hf hw (lv_sub hl [1, 2, 0] rfl)
  · have hf := x_neg hc hf
    refine lv_iconst (v := 0) hx hb dX5_spells_16 (by decide) ?_
    exact x_zret B hw hf dX5_spells_17

set_option maxHeartbeats 4000000 in
theorem jText_spells_0_ok {S SF : St} {r : Int32} (hf : jText_spells_0 S = some (r, SF)) : XMet l D 40 (cellC T q) q T (ExC aK aV) yX5_spells cX5_spells 3 (some .boolean) ({ frames := 5, cells := 0, slots := 0, locals := 141 }) [.ref (q 1), .ref (aK 0)] S (some (.int r)) SF := by
  refine x_enter (own := RX5) (by decide +kernel) rfl (Nat.le_of_ble_eq_true rfl) (fun p e s m below meth c A B ls hw hl0 => ?_)
  have hl : lv_has ls 3 [(0, .ref (q 1)), (1, .ref (aK 0))] := hl0
  exact jText_spells_0_b0_ok B S hf hw hl

set_option maxHeartbeats 4000000 in
theorem jText_spells_1_b20_ok (B : XB p s m args meth c A cX5_spells 3 (some .boolean) RX5) {SF : St} {r : Int32} (K20 : Int32 → St → Option (Int32 × St)) (hK20 : ∀ (x2 : Int32) (S : St) (H : Heap) (locs : List Loc) (ls : Array Slot), K20 x2 S = some (r, SF) → Xw D 40 (cellC T q) q T (ExC aK aV) A s S H locs → lv_has ls 3 [(0, .ref (q 1)), (1, .ref (aK 1)), (2, .int x2)] → XG p l e ({ frames := 5, cells := 0, slots := 0, locals := 141 }) s m args below meth c D 40 (cellC T q) q T A SF (some (.int r)) H locs 20 ls [])  (x2 : Int32) (S : St) {H : Heap} {locs : List Loc} {ls : Array Slot} (hf : jText_spells_1_b20 K20 x2 S = some (r, SF)) (hw : Xw D 40 (cellC T q) q T (ExC aK aV) A s S H locs) (hl : lv_has ls 3 [(0, .ref (q 1)), (1, .ref (aK 1)), (2, .int x2)]) : XG p l e ({ frames := 5, cells := 0, slots := 0, locals := 141 }) s m args below meth c D 40 (cellC T q) q T A SF (some (.int r)) H locs 20 ls [] := by
  unfold jText_spells_1_b20 at hf
  obtain ⟨hx, hb, hr, hml, hown, hts, hlk, hA⟩ := id B
  refine lv_iload_n hx hb dX5_spells_20 rfl (lv_at hl 2 rfl) ?_
  refine lv_aload_n hx hb dX5_spells_21 rfl (lv_at hl 1 rfl) ?_
  refine x_callStr B ExC_ok hw.2.2.2.2.1 (i := 1) (by decide) hw (As := []) (rest := [.int x2]) (st1 := [.int 4, .int x2]) (jStr_length_ok (i := 1) (by decide) S) u308 u309 u310 u46 u311 ⟨rfl, by decide +kernel⟩ rfl ⟨Nat.le_of_ble_eq_true rfl, Nat.le_of_ble_eq_true rfl⟩ ⟨rfl, rfl⟩ hl.1 (Nat.le_of_ble_eq_true rfl) dX5_spells_22 (fun H locs hw => ?_) rfl rfl
  refine lv_icmp_ge (tgt := 55) hx hb dX5_spells_25 (by decide) (fun hc => ?_) (fun hc => ?_)
  · have hf := x_pos hc hf
    refine lv_iconst (v := 1) hx hb dX5_spells_55 (by decide) ?_
    exact x_zret B hw hf dX5_spells_56
  · have hf := x_neg hc hf
    refine lv_aload_n hx hb dX5_spells_28 rfl (lv_at hl 0 rfl) ?_
    refine x_get B hw (Tb := TX5) inX5 1 (by decide) rfl rfl 0 (by decide) u66 (fun _ h => h) rfl dX5_spells_29 ?_
    refine lv_aload_n hx hb dX5_spells_32 rfl (lv_at hl 0 rfl) ?_
    refine x_get B hw (Tb := TX5) inX5 1 (by decide) rfl rfl 3 (by decide) u71 (fun _ h => h) rfl dX5_spells_33 ?_
    refine lv_iload_n hx hb dX5_spells_36 rfl (lv_at hl 2 rfl) ?_
    refine lv_iadd hx hb dX5_spells_37 ?_
    refine x_iald B hw 2 (by decide) rfl dX5_spells_38 hf (fun v1 hf => ?_)
    refine lv_aload_n hx hb dX5_spells_39 rfl (lv_at hl 1 rfl) ?_
    refine lv_iload_n hx hb dX5_spells_40 rfl (lv_at hl 2 rfl) ?_
    obtain ⟨hin, hf⟩ := x_ld_some hf
    refine x_callStr B ExC_ok hw.2.2.2.2.1 (i := 1) (by decide) hw (n := 1) (As := [.int x2]) (rest := [.int v1]) (st1 := .int (sc_ch 1 (Int32.toNatClampNeg x2)) :: [.int v1]) (jStr_charAt_ok (i := 1) (by decide) S x2 hin) u318 u319 u320 u46 u321 ⟨rfl, by decide +kernel⟩ rfl ⟨Nat.le_of_ble_eq_true rfl, Nat.le_of_ble_eq_true rfl⟩ ⟨rfl, rfl⟩ hl.1 (Nat.le_of_ble_eq_true rfl) dX5_spells_41 (fun H locs hw => ?_) rfl rfl
    generalize sc_ch 1 (Int32.toNatClampNeg x2) = v2 at hf ⊢
    refine lv_icmp_eq (tgt := 49) hx hb dX5_spells_44 (by decide) (fun hc => ?_) (fun hc => ?_)
    · have hf := x_pos hc hf
      refine lv_iinc (v := x2 + 1) (lv' := [(2, .int (x2 + 1)), (0, .ref (q 1)), (1, .ref (aK 1))]) hx hb dX5_spells_49 hl (k := 2) rfl xi_1 (by decide) rfl (fun ls hl => ?_)
      refine lv_goto (tgt := 20) hx hb dX5_spells_52 (by decide) ?_
      exact hK20 (x2 + 1) S _ _ _ hf hw (lv_sub hl [1, 2, 0] rfl)
    · have hf := x_neg hc hf
      refine lv_iconst (v := 0) hx hb dX5_spells_47 (by decide) ?_
      exact x_zret B hw hf dX5_spells_48

theorem jText_spells_1_h20_ok (B : XB p s m args meth c A cX5_spells 3 (some .boolean) RX5) {SF : St} {r : Int32} : ∀ (n : Nat) (x2 : Int32) (S : St) (H : Heap) (locs : List Loc) (ls : Array Slot), jText_spells_1_h20 n x2 S = some (r, SF) → Xw D 40 (cellC T q) q T (ExC aK aV) A s S H locs → lv_has ls 3 [(0, .ref (q 1)), (1, .ref (aK 1)), (2, .int x2)] → XG p l e ({ frames := 5, cells := 0, slots := 0, locals := 141 }) s m args below meth c D 40 (cellC T q) q T A SF (some (.int r)) H locs 20 ls [] := by
  intro n
  induction n with
  | zero =>
    intro x2 S H locs ls hf hw hl
    rw [jText_spells_1_h20] at hf
    cases hf
  | succ n ih =>
    intro x2 S H locs ls hf hw hl
    rw [jText_spells_1_h20] at hf
    exact jText_spells_1_b20_ok B (jText_spells_1_h20 n) ih x2 S hf hw hl

set_option maxHeartbeats 4000000 in
theorem jText_spells_1_b0_ok (B : XB p s m args meth c A cX5_spells 3 (some .boolean) RX5) {SF : St} {r : Int32}  (S : St) {H : Heap} {locs : List Loc} {ls : Array Slot} (hf : jText_spells_1 S = some (r, SF)) (hw : Xw D 40 (cellC T q) q T (ExC aK aV) A s S H locs) (hl : lv_has ls 3 [(0, .ref (q 1)), (1, .ref (aK 1))]) : XG p l e ({ frames := 5, cells := 0, slots := 0, locals := 141 }) s m args below meth c D 40 (cellC T q) q T A SF (some (.int r)) H locs 0 ls [] := by
  unfold jText_spells_1 at hf
  obtain ⟨hx, hb, hr, hml, hown, hts, hlk, hA⟩ := id B
  refine lv_aload_n hx hb dX5_spells_0 rfl (lv_at hl 0 rfl) ?_
  refine x_get B hw (Tb := TX5) inX5 1 (by decide) rfl rfl 2 (by decide) u69 (fun _ h => h) rfl dX5_spells_1 ?_
  refine lv_aload_n hx hb dX5_spells_4 rfl (lv_at hl 0 rfl) ?_
  refine x_get B hw (Tb := TX5) inX5 1 (by decide) rfl rfl 3 (by decide) u71 (fun _ h => h) rfl dX5_spells_5 ?_
  refine lv_isub hx hb dX5_spells_8 ?_
  refine lv_aload_n hx hb dX5_spells_9 rfl (lv_at hl 1 rfl) ?_
  refine x_callStr B ExC_ok hw.2.2.2.2.1 (i := 1) (by decide) hw (As := []) (rest := [.int ((S.1 1 2) - (S.1 1 3))]) (st1 := [.int 4, .int ((S.1 1 2) - (S.1 1 3))]) (jStr_length_ok (i := 1) (by decide) S) u308 u309 u310 u46 u311 ⟨rfl, by decide +kernel⟩ rfl ⟨Nat.le_of_ble_eq_true rfl, Nat.le_of_ble_eq_true rfl⟩ ⟨rfl, rfl⟩ hl.1 (Nat.le_of_ble_eq_true rfl) dX5_spells_10 (fun H locs hw => ?_) rfl rfl
  refine lv_icmp_eq (tgt := 18) hx hb dX5_spells_13 (by decide) (fun hc => ?_) (fun hc => ?_)
  · have hf := x_pos hc hf
    refine lv_iconst (v := 0) hx hb dX5_spells_18 (by decide) ?_
    refine lv_istore_n (lv' := [(2, .int 0), (0, .ref (q 1)), (1, .ref (aK 1))]) hx hb dX5_spells_19 rfl hl (by decide) rfl (fun ls hl => ?_)
    exact jText_spells_1_h20_ok B FU 0 S _ _ _ hf hw (lv_sub hl [1, 2, 0] rfl)
  · have hf := x_neg hc hf
    refine lv_iconst (v := 0) hx hb dX5_spells_16 (by decide) ?_
    exact x_zret B hw hf dX5_spells_17

set_option maxHeartbeats 4000000 in
theorem jText_spells_1_ok {S SF : St} {r : Int32} (hf : jText_spells_1 S = some (r, SF)) : XMet l D 40 (cellC T q) q T (ExC aK aV) yX5_spells cX5_spells 3 (some .boolean) ({ frames := 5, cells := 0, slots := 0, locals := 141 }) [.ref (q 1), .ref (aK 1)] S (some (.int r)) SF := by
  refine x_enter (own := RX5) (by decide +kernel) rfl (Nat.le_of_ble_eq_true rfl) (fun p e s m below meth c A B ls hw hl0 => ?_)
  have hl : lv_has ls 3 [(0, .ref (q 1)), (1, .ref (aK 1))] := hl0
  exact jText_spells_1_b0_ok B S hf hw hl

set_option maxHeartbeats 4000000 in
theorem jText_spells_2_b20_ok (B : XB p s m args meth c A cX5_spells 3 (some .boolean) RX5) {SF : St} {r : Int32} (K20 : Int32 → St → Option (Int32 × St)) (hK20 : ∀ (x2 : Int32) (S : St) (H : Heap) (locs : List Loc) (ls : Array Slot), K20 x2 S = some (r, SF) → Xw D 40 (cellC T q) q T (ExC aK aV) A s S H locs → lv_has ls 3 [(0, .ref (q 1)), (1, .ref (aK 2)), (2, .int x2)] → XG p l e ({ frames := 5, cells := 0, slots := 0, locals := 141 }) s m args below meth c D 40 (cellC T q) q T A SF (some (.int r)) H locs 20 ls [])  (x2 : Int32) (S : St) {H : Heap} {locs : List Loc} {ls : Array Slot} (hf : jText_spells_2_b20 K20 x2 S = some (r, SF)) (hw : Xw D 40 (cellC T q) q T (ExC aK aV) A s S H locs) (hl : lv_has ls 3 [(0, .ref (q 1)), (1, .ref (aK 2)), (2, .int x2)]) : XG p l e ({ frames := 5, cells := 0, slots := 0, locals := 141 }) s m args below meth c D 40 (cellC T q) q T A SF (some (.int r)) H locs 20 ls [] := by
  unfold jText_spells_2_b20 at hf
  obtain ⟨hx, hb, hr, hml, hown, hts, hlk, hA⟩ := id B
  refine lv_iload_n hx hb dX5_spells_20 rfl (lv_at hl 2 rfl) ?_
  refine lv_aload_n hx hb dX5_spells_21 rfl (lv_at hl 1 rfl) ?_
  refine x_callStr B ExC_ok hw.2.2.2.2.1 (i := 2) (by decide) hw (As := []) (rest := [.int x2]) (st1 := [.int 3, .int x2]) (jStr_length_ok (i := 2) (by decide) S) u308 u309 u310 u46 u311 ⟨rfl, by decide +kernel⟩ rfl ⟨Nat.le_of_ble_eq_true rfl, Nat.le_of_ble_eq_true rfl⟩ ⟨rfl, rfl⟩ hl.1 (Nat.le_of_ble_eq_true rfl) dX5_spells_22 (fun H locs hw => ?_) rfl rfl
  refine lv_icmp_ge (tgt := 55) hx hb dX5_spells_25 (by decide) (fun hc => ?_) (fun hc => ?_)
  · have hf := x_pos hc hf
    refine lv_iconst (v := 1) hx hb dX5_spells_55 (by decide) ?_
    exact x_zret B hw hf dX5_spells_56
  · have hf := x_neg hc hf
    refine lv_aload_n hx hb dX5_spells_28 rfl (lv_at hl 0 rfl) ?_
    refine x_get B hw (Tb := TX5) inX5 1 (by decide) rfl rfl 0 (by decide) u66 (fun _ h => h) rfl dX5_spells_29 ?_
    refine lv_aload_n hx hb dX5_spells_32 rfl (lv_at hl 0 rfl) ?_
    refine x_get B hw (Tb := TX5) inX5 1 (by decide) rfl rfl 3 (by decide) u71 (fun _ h => h) rfl dX5_spells_33 ?_
    refine lv_iload_n hx hb dX5_spells_36 rfl (lv_at hl 2 rfl) ?_
    refine lv_iadd hx hb dX5_spells_37 ?_
    refine x_iald B hw 2 (by decide) rfl dX5_spells_38 hf (fun v1 hf => ?_)
    refine lv_aload_n hx hb dX5_spells_39 rfl (lv_at hl 1 rfl) ?_
    refine lv_iload_n hx hb dX5_spells_40 rfl (lv_at hl 2 rfl) ?_
    obtain ⟨hin, hf⟩ := x_ld_some hf
    refine x_callStr B ExC_ok hw.2.2.2.2.1 (i := 2) (by decide) hw (n := 1) (As := [.int x2]) (rest := [.int v1]) (st1 := .int (sc_ch 2 (Int32.toNatClampNeg x2)) :: [.int v1]) (jStr_charAt_ok (i := 2) (by decide) S x2 hin) u318 u319 u320 u46 u321 ⟨rfl, by decide +kernel⟩ rfl ⟨Nat.le_of_ble_eq_true rfl, Nat.le_of_ble_eq_true rfl⟩ ⟨rfl, rfl⟩ hl.1 (Nat.le_of_ble_eq_true rfl) dX5_spells_41 (fun H locs hw => ?_) rfl rfl
    generalize sc_ch 2 (Int32.toNatClampNeg x2) = v2 at hf ⊢
    refine lv_icmp_eq (tgt := 49) hx hb dX5_spells_44 (by decide) (fun hc => ?_) (fun hc => ?_)
    · have hf := x_pos hc hf
      refine lv_iinc (v := x2 + 1) (lv' := [(2, .int (x2 + 1)), (0, .ref (q 1)), (1, .ref (aK 2))]) hx hb dX5_spells_49 hl (k := 2) rfl xi_1 (by decide) rfl (fun ls hl => ?_)
      refine lv_goto (tgt := 20) hx hb dX5_spells_52 (by decide) ?_
      exact hK20 (x2 + 1) S _ _ _ hf hw (lv_sub hl [1, 2, 0] rfl)
    · have hf := x_neg hc hf
      refine lv_iconst (v := 0) hx hb dX5_spells_47 (by decide) ?_
      exact x_zret B hw hf dX5_spells_48

theorem jText_spells_2_h20_ok (B : XB p s m args meth c A cX5_spells 3 (some .boolean) RX5) {SF : St} {r : Int32} : ∀ (n : Nat) (x2 : Int32) (S : St) (H : Heap) (locs : List Loc) (ls : Array Slot), jText_spells_2_h20 n x2 S = some (r, SF) → Xw D 40 (cellC T q) q T (ExC aK aV) A s S H locs → lv_has ls 3 [(0, .ref (q 1)), (1, .ref (aK 2)), (2, .int x2)] → XG p l e ({ frames := 5, cells := 0, slots := 0, locals := 141 }) s m args below meth c D 40 (cellC T q) q T A SF (some (.int r)) H locs 20 ls [] := by
  intro n
  induction n with
  | zero =>
    intro x2 S H locs ls hf hw hl
    rw [jText_spells_2_h20] at hf
    cases hf
  | succ n ih =>
    intro x2 S H locs ls hf hw hl
    rw [jText_spells_2_h20] at hf
    exact jText_spells_2_b20_ok B (jText_spells_2_h20 n) ih x2 S hf hw hl

set_option maxHeartbeats 4000000 in
theorem jText_spells_2_b0_ok (B : XB p s m args meth c A cX5_spells 3 (some .boolean) RX5) {SF : St} {r : Int32}  (S : St) {H : Heap} {locs : List Loc} {ls : Array Slot} (hf : jText_spells_2 S = some (r, SF)) (hw : Xw D 40 (cellC T q) q T (ExC aK aV) A s S H locs) (hl : lv_has ls 3 [(0, .ref (q 1)), (1, .ref (aK 2))]) : XG p l e ({ frames := 5, cells := 0, slots := 0, locals := 141 }) s m args below meth c D 40 (cellC T q) q T A SF (some (.int r)) H locs 0 ls [] := by
  unfold jText_spells_2 at hf
  obtain ⟨hx, hb, hr, hml, hown, hts, hlk, hA⟩ := id B
  refine lv_aload_n hx hb dX5_spells_0 rfl (lv_at hl 0 rfl) ?_
  refine x_get B hw (Tb := TX5) inX5 1 (by decide) rfl rfl 2 (by decide) u69 (fun _ h => h) rfl dX5_spells_1 ?_
  refine lv_aload_n hx hb dX5_spells_4 rfl (lv_at hl 0 rfl) ?_
  refine x_get B hw (Tb := TX5) inX5 1 (by decide) rfl rfl 3 (by decide) u71 (fun _ h => h) rfl dX5_spells_5 ?_
  refine lv_isub hx hb dX5_spells_8 ?_
  refine lv_aload_n hx hb dX5_spells_9 rfl (lv_at hl 1 rfl) ?_
  refine x_callStr B ExC_ok hw.2.2.2.2.1 (i := 2) (by decide) hw (As := []) (rest := [.int ((S.1 1 2) - (S.1 1 3))]) (st1 := [.int 3, .int ((S.1 1 2) - (S.1 1 3))]) (jStr_length_ok (i := 2) (by decide) S) u308 u309 u310 u46 u311 ⟨rfl, by decide +kernel⟩ rfl ⟨Nat.le_of_ble_eq_true rfl, Nat.le_of_ble_eq_true rfl⟩ ⟨rfl, rfl⟩ hl.1 (Nat.le_of_ble_eq_true rfl) dX5_spells_10 (fun H locs hw => ?_) rfl rfl
  refine lv_icmp_eq (tgt := 18) hx hb dX5_spells_13 (by decide) (fun hc => ?_) (fun hc => ?_)
  · have hf := x_pos hc hf
    refine lv_iconst (v := 0) hx hb dX5_spells_18 (by decide) ?_
    refine lv_istore_n (lv' := [(2, .int 0), (0, .ref (q 1)), (1, .ref (aK 2))]) hx hb dX5_spells_19 rfl hl (by decide) rfl (fun ls hl => ?_)
    exact jText_spells_2_h20_ok B FU 0 S _ _ _ hf hw (lv_sub hl [1, 2, 0] rfl)
  · have hf := x_neg hc hf
    refine lv_iconst (v := 0) hx hb dX5_spells_16 (by decide) ?_
    exact x_zret B hw hf dX5_spells_17

set_option maxHeartbeats 4000000 in
theorem jText_spells_2_ok {S SF : St} {r : Int32} (hf : jText_spells_2 S = some (r, SF)) : XMet l D 40 (cellC T q) q T (ExC aK aV) yX5_spells cX5_spells 3 (some .boolean) ({ frames := 5, cells := 0, slots := 0, locals := 141 }) [.ref (q 1), .ref (aK 2)] S (some (.int r)) SF := by
  refine x_enter (own := RX5) (by decide +kernel) rfl (Nat.le_of_ble_eq_true rfl) (fun p e s m below meth c A B ls hw hl0 => ?_)
  have hl : lv_has ls 3 [(0, .ref (q 1)), (1, .ref (aK 2))] := hl0
  exact jText_spells_2_b0_ok B S hf hw hl

set_option maxHeartbeats 4000000 in
theorem jText_readName_b39_ok (B : XB p s m args meth c A cX5_readName 1 (some .int) RX5) {SF : St} {r : Int32}  (S : St) {H : Heap} {locs : List Loc} {ls : Array Slot} (hf : jText_readName_b39 S = some (r, SF)) (hw : Xw D 40 (cellC T q) q T (ExC aK aV) A s S H locs) (hl : lv_has ls 1 [(0, .ref (q 1))]) : XG p l e ({ frames := 6, cells := 0, slots := 0, locals := 163 }) s m args below meth c D 40 (cellC T q) q T A SF (some (.int r)) H locs 39 ls [] := by
  unfold jText_readName_b39 at hf
  obtain ⟨hx, hb, hr, hml, hown, hts, hlk, hA⟩ := id B
  refine lv_aload_n hx hb dX5_readName_39 rfl (lv_at hl 0 rfl) ?_
  refine va_ldcS hx hb hown (tx := "house") (q := aK 0) hw.2.2.2.2.2.2.2.1 dX5_readName_40 ?_
  obtain ⟨v2, S1, hc, hf⟩ := x_bd_some hf
  refine x_callV B ExC_ok hw 1 (by decide) rfl rfl (As := [.ref (aK 0)]) (rest := []) (st1 := [.int v2]) (jText_spells_0_ok hc) u304 u306 u2 u39 u307 hdX5_spells rfl ⟨Nat.le_of_ble_eq_true rfl, Nat.le_of_ble_eq_true rfl⟩ ⟨rfl, rfl⟩ hl.1 (Nat.le_of_ble_eq_true rfl) dX5_readName_42 (fun H locs hw => ?_) rfl rfl
  refine lv_if_eq (tgt := 50) hx hb dX5_readName_45 (by decide) (fun hc => ?_) (fun hc => ?_)
  · have hf := x_pos hc hf
    refine lv_aload_n hx hb dX5_readName_50 rfl (lv_at hl 0 rfl) ?_
    refine va_ldcS hx hb hown (tx := "dish") (q := aK 1) hw.2.2.2.2.2.2.2.2.1 dX5_readName_51 ?_
    obtain ⟨v4, S3, hc, hf⟩ := x_bd_some hf
    refine x_callV B ExC_ok hw 1 (by decide) rfl rfl (As := [.ref (aK 1)]) (rest := []) (st1 := [.int v4]) (jText_spells_1_ok hc) u304 u306 u2 u39 u307 hdX5_spells rfl ⟨Nat.le_of_ble_eq_true rfl, Nat.le_of_ble_eq_true rfl⟩ ⟨rfl, rfl⟩ hl.1 (Nat.le_of_ble_eq_true rfl) dX5_readName_53 (fun H locs hw => ?_) rfl rfl
    refine lv_if_eq (tgt := 61) hx hb dX5_readName_56 (by decide) (fun hc => ?_) (fun hc => ?_)
    · have hf := x_pos hc hf
      refine lv_aload_n hx hb dX5_readName_61 rfl (lv_at hl 0 rfl) ?_
      refine va_ldcS hx hb hown (tx := "fog") (q := aK 2) hw.2.2.2.2.2.2.2.2.2.1 dX5_readName_62 ?_
      obtain ⟨v6, S5, hc, hf⟩ := x_bd_some hf
      refine x_callV B ExC_ok hw 1 (by decide) rfl rfl (As := [.ref (aK 2)]) (rest := []) (st1 := [.int v6]) (jText_spells_2_ok hc) u304 u306 u2 u39 u307 hdX5_spells rfl ⟨Nat.le_of_ble_eq_true rfl, Nat.le_of_ble_eq_true rfl⟩ ⟨rfl, rfl⟩ hl.1 (Nat.le_of_ble_eq_true rfl) dX5_readName_64 (fun H locs hw => ?_) rfl rfl
      refine lv_if_eq (tgt := 75) hx hb dX5_readName_67 (by decide) (fun hc => ?_) (fun hc => ?_)
      · have hf := x_pos hc hf
        refine lv_iconst (v := 1) hx hb dX5_readName_75 (by decide) ?_
        exact x_iret B hw hf dX5_readName_76
      · have hf := x_neg hc hf
        refine lv_bipush (v := 6) hx hb dX5_readName_70 (by decide) ?_
        refine lv_goto (tgt := 76) hx hb dX5_readName_72 (by decide) ?_
        exact x_iret B hw hf dX5_readName_76
    · have hf := x_neg hc hf
      refine lv_iconst (v := 5) hx hb dX5_readName_59 (by decide) ?_
      exact x_iret B hw hf dX5_readName_60
  · have hf := x_neg hc hf
    refine lv_iconst (v := 4) hx hb dX5_readName_48 (by decide) ?_
    exact x_iret B hw hf dX5_readName_49

set_option maxHeartbeats 4000000 in
theorem jText_readName_b0_ok (B : XB p s m args meth c A cX5_readName 1 (some .int) RX5) {SF : St} {r : Int32} (K0 : St → Option (Int32 × St)) (hK0 : ∀ (S : St) (H : Heap) (locs : List Loc) (ls : Array Slot), K0 S = some (r, SF) → Xw D 40 (cellC T q) q T (ExC aK aV) A s S H locs → lv_has ls 1 [(0, .ref (q 1))] → XG p l e ({ frames := 6, cells := 0, slots := 0, locals := 163 }) s m args below meth c D 40 (cellC T q) q T A SF (some (.int r)) H locs 0 ls [])  (S : St) {H : Heap} {locs : List Loc} {ls : Array Slot} (hf : jText_readName_b0 K0 S = some (r, SF)) (hw : Xw D 40 (cellC T q) q T (ExC aK aV) A s S H locs) (hl : lv_has ls 1 [(0, .ref (q 1))]) : XG p l e ({ frames := 6, cells := 0, slots := 0, locals := 163 }) s m args below meth c D 40 (cellC T q) q T A SF (some (.int r)) H locs 0 ls [] := by
  unfold jText_readName_b0 at hf
  obtain ⟨hx, hb, hr, hml, hown, hts, hlk, hA⟩ := id B
  refine lv_aload_n hx hb dX5_readName_0 rfl (lv_at hl 0 rfl) ?_
  refine x_get B hw (Tb := TX5) inX5 1 (by decide) rfl rfl 2 (by decide) u69 (fun _ h => h) rfl dX5_readName_1 ?_
  refine lv_aload_n hx hb dX5_readName_4 rfl (lv_at hl 0 rfl) ?_
  refine x_get B hw (Tb := TX5) inX5 1 (by decide) rfl rfl 1 (by decide) u67 (fun _ h => h) rfl dX5_readName_5 ?_
  refine lv_icmp_ge (tgt := 39) hx hb dX5_readName_8 (by decide) (fun hc => ?_) (fun hc => ?_)
  · have hf := x_pos hc hf
    exact jText_readName_b39_ok B S hf hw (lv_sub hl [0] rfl)
  · have hf := x_neg hc hf
    refine lv_aload_n hx hb dX5_readName_11 rfl (lv_at hl 0 rfl) ?_
    refine x_get B hw (Tb := TX5) inX5 1 (by decide) rfl rfl 0 (by decide) u66 (fun _ h => h) rfl dX5_readName_12 ?_
    refine lv_aload_n hx hb dX5_readName_15 rfl (lv_at hl 0 rfl) ?_
    refine x_get B hw (Tb := TX5) inX5 1 (by decide) rfl rfl 2 (by decide) u69 (fun _ h => h) rfl dX5_readName_16 ?_
    refine x_iald B hw 2 (by decide) rfl dX5_readName_19 hf (fun v7 hf => ?_)
    obtain ⟨v9, S8, hc, hf⟩ := x_bd_some hf
    refine x_callS B ExC_ok hw (As := [.int v7]) (rest := []) (st1 := [.int v9]) (jText_isLetter_ok hc) u296 u297 u39 u298 hdX5_isLetter rfl ⟨Nat.le_of_ble_eq_true rfl, Nat.le_of_ble_eq_true rfl⟩ ⟨rfl, rfl⟩ hl.1 (Nat.le_of_ble_eq_true rfl) dX5_readName_20 (fun H locs hw => ?_) rfl rfl
    refine lv_if_eq (tgt := 39) hx hb dX5_readName_23 (by decide) (fun hc => ?_) (fun hc => ?_)
    · have hf := x_pos hc hf
      exact jText_readName_b39_ok B S8 hf hw (lv_sub hl [0] rfl)
    · have hf := x_neg hc hf
      refine lv_aload_n hx hb dX5_readName_26 rfl (lv_at hl 0 rfl) ?_
      refine lv_dup hx hb dX5_readName_27 rfl ?_
      refine x_get B hw (Tb := TX5) inX5 1 (by decide) rfl rfl 2 (by decide) u69 (fun _ h => h) rfl dX5_readName_28 ?_
      refine lv_iconst (v := 1) hx hb dX5_readName_31 (by decide) ?_
      refine lv_iadd hx hb dX5_readName_32 ?_
      refine x_put B hw (Tb := TX5) inX5 tyX5 tyX5_ok nmX5 1 (by decide) rfl rfl 2 (by decide) u69 (fun _ h => h) rfl (ty := .int) (by decide +kernel) rfl rfl (Nat.le_of_ble_eq_true rfl) (S1 := upI S8 1 2 ((S8.1 1 2) + 1)) rfl upI_o (fun _ _ => rfl) dX5_readName_33 hf (fun S10 H locs hw hf => ?_)
      refine lv_goto (tgt := 0) hx hb dX5_readName_36 (by decide) ?_
      exact hK0 S10 _ _ _ hf hw (lv_sub hl [0] rfl)

theorem jText_readName_h0_ok (B : XB p s m args meth c A cX5_readName 1 (some .int) RX5) {SF : St} {r : Int32} : ∀ (n : Nat) (S : St) (H : Heap) (locs : List Loc) (ls : Array Slot), jText_readName_h0 n S = some (r, SF) → Xw D 40 (cellC T q) q T (ExC aK aV) A s S H locs → lv_has ls 1 [(0, .ref (q 1))] → XG p l e ({ frames := 6, cells := 0, slots := 0, locals := 163 }) s m args below meth c D 40 (cellC T q) q T A SF (some (.int r)) H locs 0 ls [] := by
  intro n
  induction n with
  | zero =>
    intro S H locs ls hf hw hl
    rw [jText_readName_h0] at hf
    cases hf
  | succ n ih =>
    intro S H locs ls hf hw hl
    rw [jText_readName_h0] at hf
    exact jText_readName_b0_ok B (jText_readName_h0 n) ih S hf hw hl

set_option maxHeartbeats 4000000 in
theorem jText_readName_ok {S SF : St} {r : Int32} (hf : jText_readName S = some (r, SF)) : XMet l D 40 (cellC T q) q T (ExC aK aV) yX5_readName cX5_readName 1 (some .int) ({ frames := 6, cells := 0, slots := 0, locals := 163 }) [.ref (q 1)] S (some (.int r)) SF := by
  refine x_enter (own := RX5) (by decide +kernel) rfl (Nat.le_of_ble_eq_true rfl) (fun p e s m below meth c A B ls hw hl0 => ?_)
  have hl : lv_has ls 1 [(0, .ref (q 1))] := hl0
  unfold jText_readName at hf
  exact jText_readName_h0_ok B FU S _ _ _ hf hw hl

set_option maxHeartbeats 4000000 in
theorem jText_readNumber_b96_ok (B : XB p s m args meth c A cX5_readNumber 3 (some .int) RX5) {SF : St} {r : Int32}  (x1 : Int32) (S : St) {H : Heap} {locs : List Loc} {ls : Array Slot} (hf : jText_readNumber_b96 x1 S = some (r, SF)) (hw : Xw D 40 (cellC T q) q T (ExC aK aV) A s S H locs) (hl : lv_has ls 3 [(0, .ref (q 1)), (1, .int x1)]) : XG p l e ({ frames := 1, cells := 0, slots := 0, locals := 20 }) s m args below meth c D 40 (cellC T q) q T A SF (some (.int r)) H locs 96 ls [] := by
  unfold jText_readNumber_b96 at hf
  obtain ⟨hx, hb, hr, hml, hown, hts, hlk, hA⟩ := id B
  refine lv_aload_n hx hb dX5_readNumber_96 rfl (lv_at hl 0 rfl) ?_
  refine x_get B hw (Tb := TX5) inX5 1 (by decide) rfl rfl 2 (by decide) u69 (fun _ h => h) rfl dX5_readNumber_97 ?_
  refine lv_aload_n hx hb dX5_readNumber_100 rfl (lv_at hl 0 rfl) ?_
  refine x_get B hw (Tb := TX5) inX5 1 (by decide) rfl rfl 3 (by decide) u71 (fun _ h => h) rfl dX5_readNumber_101 ?_
  refine lv_isub hx hb dX5_readNumber_104 ?_
  refine x_leti hf (fun v2 hf => ?_)
  refine lv_istore_n (lv' := [(2, .int v2), (0, .ref (q 1)), (1, .int x1)]) hx hb dX5_readNumber_105 rfl hl (by decide) rfl (fun ls hl => ?_)
  refine lv_iload_n hx hb dX5_readNumber_106 rfl (lv_at hl 0 rfl) ?_
  refine lv_iconst (v := 2) hx hb dX5_readNumber_107 (by decide) ?_
  refine lv_icmp_gt (tgt := 120) hx hb dX5_readNumber_108 (by decide) (fun hc => ?_) (fun hc => ?_)
  · have hf := x_pos hc hf
    refine lv_iconst (v := 1) hx hb dX5_readNumber_120 (by decide) ?_
    refine lv_goto (tgt := 125) hx hb dX5_readNumber_121 (by decide) ?_
    exact x_iret B hw hf dX5_readNumber_125
  · have hf := x_neg hc hf
    refine lv_iload_n hx hb dX5_readNumber_111 rfl (lv_at hl 0 rfl) ?_
    refine lv_iconst (v := 1) hx hb dX5_readNumber_112 (by decide) ?_
    refine lv_icmp_le (tgt := 124) hx hb dX5_readNumber_113 (by decide) (fun hc => ?_) (fun hc => ?_)
    · have hf := x_pos hc hf
      refine lv_iconst (v := 2) hx hb dX5_readNumber_124 (by decide) ?_
      exact x_iret B hw hf dX5_readNumber_125
    · have hf := x_neg hc hf
      refine lv_iload_n hx hb dX5_readNumber_116 rfl (lv_at hl 2 rfl) ?_
      refine lv_if_eq (tgt := 124) hx hb dX5_readNumber_117 (by decide) (fun hc => ?_) (fun hc => ?_)
      · have hf := x_pos hc hf
        refine lv_iconst (v := 2) hx hb dX5_readNumber_124 (by decide) ?_
        exact x_iret B hw hf dX5_readNumber_125
      · have hf := x_neg hc hf
        refine lv_iconst (v := 1) hx hb dX5_readNumber_120 (by decide) ?_
        refine lv_goto (tgt := 125) hx hb dX5_readNumber_121 (by decide) ?_
        exact x_iret B hw hf dX5_readNumber_125

set_option maxHeartbeats 4000000 in
theorem jText_readNumber_b83_ok (B : XB p s m args meth c A cX5_readNumber 3 (some .int) RX5) {SF : St} {r : Int32} (K20 : Int32 → St → Option (Int32 × St)) (hK20 : ∀ (x1 : Int32) (S : St) (H : Heap) (locs : List Loc) (ls : Array Slot), K20 x1 S = some (r, SF) → Xw D 40 (cellC T q) q T (ExC aK aV) A s S H locs → lv_has ls 3 [(0, .ref (q 1)), (1, .int x1)] → XG p l e ({ frames := 1, cells := 0, slots := 0, locals := 20 }) s m args below meth c D 40 (cellC T q) q T A SF (some (.int r)) H locs 20 ls [])  (x1 : Int32) (S : St) {H : Heap} {locs : List Loc} {ls : Array Slot} (hf : jText_readNumber_b83 K20 x1 S = some (r, SF)) (hw : Xw D 40 (cellC T q) q T (ExC aK aV) A s S H locs) (hl : lv_has ls 3 [(0, .ref (q 1)), (1, .int x1)]) : XG p l e ({ frames := 1, cells := 0, slots := 0, locals := 20 }) s m args below meth c D 40 (cellC T q) q T A SF (some (.int r)) H locs 83 ls [] := by
  unfold jText_readNumber_b83 at hf
  obtain ⟨hx, hb, hr, hml, hown, hts, hlk, hA⟩ := id B
  refine lv_aload_n hx hb dX5_readNumber_83 rfl (lv_at hl 0 rfl) ?_
  refine lv_dup hx hb dX5_readNumber_84 rfl ?_
  refine x_get B hw (Tb := TX5) inX5 1 (by decide) rfl rfl 2 (by decide) u69 (fun _ h => h) rfl dX5_readNumber_85 ?_
  refine lv_iconst (v := 1) hx hb dX5_readNumber_88 (by decide) ?_
  refine lv_iadd hx hb dX5_readNumber_89 ?_
  refine x_put B hw (Tb := TX5) inX5 tyX5 tyX5_ok nmX5 1 (by decide) rfl rfl 2 (by decide) u69 (fun _ h => h) rfl (ty := .int) (by decide +kernel) rfl rfl (Nat.le_of_ble_eq_true rfl) (S1 := upI S 1 2 ((S.1 1 2) + 1)) rfl upI_o (fun _ _ => rfl) dX5_readNumber_90 hf (fun S6 H locs hw hf => ?_)
  refine lv_goto (tgt := 20) hx hb dX5_readNumber_93 (by decide) ?_
  exact hK20 x1 S6 _ _ _ hf hw (lv_sub hl [0, 1] rfl)

set_option maxHeartbeats 4000000 in
theorem jText_readNumber_b20_ok (B : XB p s m args meth c A cX5_readNumber 3 (some .int) RX5) {SF : St} {r : Int32} (K20 : Int32 → St → Option (Int32 × St)) (hK20 : ∀ (x1 : Int32) (S : St) (H : Heap) (locs : List Loc) (ls : Array Slot), K20 x1 S = some (r, SF) → Xw D 40 (cellC T q) q T (ExC aK aV) A s S H locs → lv_has ls 3 [(0, .ref (q 1)), (1, .int x1)] → XG p l e ({ frames := 1, cells := 0, slots := 0, locals := 20 }) s m args below meth c D 40 (cellC T q) q T A SF (some (.int r)) H locs 20 ls [])  (x1 : Int32) (S : St) {H : Heap} {locs : List Loc} {ls : Array Slot} (hf : jText_readNumber_b20 K20 x1 S = some (r, SF)) (hw : Xw D 40 (cellC T q) q T (ExC aK aV) A s S H locs) (hl : lv_has ls 3 [(0, .ref (q 1)), (1, .int x1)]) : XG p l e ({ frames := 1, cells := 0, slots := 0, locals := 20 }) s m args below meth c D 40 (cellC T q) q T A SF (some (.int r)) H locs 20 ls [] := by
  unfold jText_readNumber_b20 at hf
  obtain ⟨hx, hb, hr, hml, hown, hts, hlk, hA⟩ := id B
  refine lv_aload_n hx hb dX5_readNumber_20 rfl (lv_at hl 0 rfl) ?_
  refine x_get B hw (Tb := TX5) inX5 1 (by decide) rfl rfl 2 (by decide) u69 (fun _ h => h) rfl dX5_readNumber_21 ?_
  refine lv_aload_n hx hb dX5_readNumber_24 rfl (lv_at hl 0 rfl) ?_
  refine x_get B hw (Tb := TX5) inX5 1 (by decide) rfl rfl 1 (by decide) u67 (fun _ h => h) rfl dX5_readNumber_25 ?_
  refine lv_icmp_ge (tgt := 96) hx hb dX5_readNumber_28 (by decide) (fun hc => ?_) (fun hc => ?_)
  · have hf := x_pos hc hf
    exact jText_readNumber_b96_ok B x1 S hf hw (lv_sub hl [0, 1] rfl)
  · have hf := x_neg hc hf
    refine lv_aload_n hx hb dX5_readNumber_31 rfl (lv_at hl 0 rfl) ?_
    refine x_get B hw (Tb := TX5) inX5 1 (by decide) rfl rfl 0 (by decide) u66 (fun _ h => h) rfl dX5_readNumber_32 ?_
    refine lv_aload_n hx hb dX5_readNumber_35 rfl (lv_at hl 0 rfl) ?_
    refine x_get B hw (Tb := TX5) inX5 1 (by decide) rfl rfl 2 (by decide) u69 (fun _ h => h) rfl dX5_readNumber_36 ?_
    refine x_iald B hw 2 (by decide) rfl dX5_readNumber_39 hf (fun v3 hf => ?_)
    obtain ⟨v5, S4, hc, hf⟩ := x_bd_some hf
    refine x_callS B ExC_ok hw (As := [.int v3]) (rest := []) (st1 := [.int v5]) (jText_isDigit_ok hc) u289 u290 u39 u291 hdX5_isDigit rfl ⟨Nat.le_of_ble_eq_true rfl, Nat.le_of_ble_eq_true rfl⟩ ⟨rfl, rfl⟩ hl.1 (Nat.le_of_ble_eq_true rfl) dX5_readNumber_40 (fun H locs hw => ?_) rfl rfl
    refine lv_if_eq (tgt := 96) hx hb dX5_readNumber_43 (by decide) (fun hc => ?_) (fun hc => ?_)
    · have hf := x_pos hc hf
      exact jText_readNumber_b96_ok B x1 S4 hf hw (lv_sub hl [0, 1] rfl)
    · have hf := x_neg hc hf
      refine lv_aload_n hx hb dX5_readNumber_46 rfl (lv_at hl 0 rfl) ?_
      refine x_get B hw (Tb := TX5) inX5 1 (by decide) rfl rfl 2 (by decide) u69 (fun _ h => h) rfl dX5_readNumber_47 ?_
      refine lv_aload_n hx hb dX5_readNumber_50 rfl (lv_at hl 0 rfl) ?_
      refine x_get B hw (Tb := TX5) inX5 1 (by decide) rfl rfl 3 (by decide) u71 (fun _ h => h) rfl dX5_readNumber_51 ?_
      refine lv_isub hx hb dX5_readNumber_54 ?_
      refine lv_iconst (v := 2) hx hb dX5_readNumber_55 (by decide) ?_
      refine lv_icmp_ge (tgt := 83) hx hb dX5_readNumber_56 (by decide) (fun hc => ?_) (fun hc => ?_)
      · have hf := x_pos hc hf
        exact jText_readNumber_b83_ok B K20 hK20 x1 S4 hf hw (lv_sub hl [0, 1] rfl)
      · have hf := x_neg hc hf
        refine lv_aload_n hx hb dX5_readNumber_59 rfl (lv_at hl 0 rfl) ?_
        refine lv_aload_n hx hb dX5_readNumber_60 rfl (lv_at hl 0 rfl) ?_
        refine x_get B hw (Tb := TX5) inX5 1 (by decide) rfl rfl 5 (by decide) u75 (fun _ h => h) rfl dX5_readNumber_61 ?_
        refine lv_bipush (v := 10) hx hb dX5_readNumber_64 (by decide) ?_
        refine lv_imul hx hb dX5_readNumber_66 ?_
        refine lv_aload_n hx hb dX5_readNumber_67 rfl (lv_at hl 0 rfl) ?_
        refine x_get B hw (Tb := TX5) inX5 1 (by decide) rfl rfl 0 (by decide) u66 (fun _ h => h) rfl dX5_readNumber_68 ?_
        refine lv_aload_n hx hb dX5_readNumber_71 rfl (lv_at hl 0 rfl) ?_
        refine x_get B hw (Tb := TX5) inX5 1 (by decide) rfl rfl 2 (by decide) u69 (fun _ h => h) rfl dX5_readNumber_72 ?_
        refine x_iald B hw 2 (by decide) rfl dX5_readNumber_75 hf (fun v7 hf => ?_)
        refine lv_iadd hx hb dX5_readNumber_76 ?_
        refine lv_bipush (v := 48) hx hb dX5_readNumber_77 (by decide) ?_
        refine lv_isub hx hb dX5_readNumber_79 ?_
        refine x_put B hw (Tb := TX5) inX5 tyX5 tyX5_ok nmX5 1 (by decide) rfl rfl 5 (by decide) u75 (fun _ h => h) rfl (ty := .int) (by decide +kernel) rfl rfl (Nat.le_of_ble_eq_true rfl) (S1 := upI S4 1 5 ((((S4.1 1 5) * 10) + v7) - 48)) rfl upI_o (fun _ _ => rfl) dX5_readNumber_80 hf (fun S8 H locs hw hf => ?_)
        exact jText_readNumber_b83_ok B K20 hK20 x1 S8 hf hw (lv_sub hl [0, 1] rfl)

theorem jText_readNumber_h20_ok (B : XB p s m args meth c A cX5_readNumber 3 (some .int) RX5) {SF : St} {r : Int32} : ∀ (n : Nat) (x1 : Int32) (S : St) (H : Heap) (locs : List Loc) (ls : Array Slot), jText_readNumber_h20 n x1 S = some (r, SF) → Xw D 40 (cellC T q) q T (ExC aK aV) A s S H locs → lv_has ls 3 [(0, .ref (q 1)), (1, .int x1)] → XG p l e ({ frames := 1, cells := 0, slots := 0, locals := 20 }) s m args below meth c D 40 (cellC T q) q T A SF (some (.int r)) H locs 20 ls [] := by
  intro n
  induction n with
  | zero =>
    intro x1 S H locs ls hf hw hl
    rw [jText_readNumber_h20] at hf
    cases hf
  | succ n ih =>
    intro x1 S H locs ls hf hw hl
    rw [jText_readNumber_h20] at hf
    exact jText_readNumber_b20_ok B (jText_readNumber_h20 n) ih x1 S hf hw hl

set_option maxHeartbeats 4000000 in
theorem jText_readNumber_b0_ok (B : XB p s m args meth c A cX5_readNumber 3 (some .int) RX5) {SF : St} {r : Int32}  (S : St) {H : Heap} {locs : List Loc} {ls : Array Slot} (hf : jText_readNumber S = some (r, SF)) (hw : Xw D 40 (cellC T q) q T (ExC aK aV) A s S H locs) (hl : lv_has ls 3 [(0, .ref (q 1))]) : XG p l e ({ frames := 1, cells := 0, slots := 0, locals := 20 }) s m args below meth c D 40 (cellC T q) q T A SF (some (.int r)) H locs 0 ls [] := by
  unfold jText_readNumber at hf
  obtain ⟨hx, hb, hr, hml, hown, hts, hlk, hA⟩ := id B
  refine lv_aload_n hx hb dX5_readNumber_0 rfl (lv_at hl 0 rfl) ?_
  refine x_get B hw (Tb := TX5) inX5 1 (by decide) rfl rfl 0 (by decide) u66 (fun _ h => h) rfl dX5_readNumber_1 ?_
  refine lv_aload_n hx hb dX5_readNumber_4 rfl (lv_at hl 0 rfl) ?_
  refine x_get B hw (Tb := TX5) inX5 1 (by decide) rfl rfl 3 (by decide) u71 (fun _ h => h) rfl dX5_readNumber_5 ?_
  refine x_iald B hw 2 (by decide) rfl dX5_readNumber_8 hf (fun v1 hf => ?_)
  refine lv_bipush (v := 48) hx hb dX5_readNumber_9 (by decide) ?_
  refine lv_icmp_ne (tgt := 18) hx hb dX5_readNumber_11 (by decide) (fun hc => ?_) (fun hc => ?_)
  · have hf := x_neg hc hf
    refine lv_iconst (v := 0) hx hb dX5_readNumber_18 (by decide) ?_
    refine lv_istore_n (lv' := [(1, .int 0), (0, .ref (q 1))]) hx hb dX5_readNumber_19 rfl hl (by decide) rfl (fun ls hl => ?_)
    exact jText_readNumber_h20_ok B FU 0 S _ _ _ hf hw (lv_sub hl [1, 0] rfl)
  · have hf := x_pos hc hf
    refine lv_iconst (v := 1) hx hb dX5_readNumber_14 (by decide) ?_
    refine lv_goto (tgt := 19) hx hb dX5_readNumber_15 (by decide) ?_
    refine lv_istore_n (lv' := [(1, .int 1), (0, .ref (q 1))]) hx hb dX5_readNumber_19 rfl hl (by decide) rfl (fun ls hl => ?_)
    exact jText_readNumber_h20_ok B FU 1 S _ _ _ hf hw (lv_sub hl [1, 0] rfl)

set_option maxHeartbeats 4000000 in
theorem jText_readNumber_ok {S SF : St} {r : Int32} (hf : jText_readNumber S = some (r, SF)) : XMet l D 40 (cellC T q) q T (ExC aK aV) yX5_readNumber cX5_readNumber 3 (some .int) ({ frames := 1, cells := 0, slots := 0, locals := 20 }) [.ref (q 1)] S (some (.int r)) SF := by
  refine x_enter (own := RX5) (by decide +kernel) rfl (Nat.le_of_ble_eq_true rfl) (fun p e s m below meth c A B ls hw hl0 => ?_)
  have hl : lv_has ls 3 [(0, .ref (q 1))] := hl0
  exact jText_readNumber_b0_ok B S hf hw hl

set_option maxHeartbeats 4000000 in
theorem jText_step_b142_ok (B : XB p s m args meth c A cX5_step 1 none RX5) {SF : St}  (s0 : Int32) (S : St) {H : Heap} {locs : List Loc} {ls : Array Slot} (hf : jText_step_b142 s0 S = some SF) (hw : Xw D 40 (cellC T q) q T (ExC aK aV) A s S H locs) (hl : lv_has ls 1 [(0, .ref (q 1))]) : XG p l e ({ frames := 7, cells := 0, slots := 0, locals := 183 }) s m args below meth c D 40 (cellC T q) q T A SF none H locs 142 ls [.int s0, .ref (q 1)] := by
  unfold jText_step_b142 at hf
  obtain ⟨hx, hb, hr, hml, hown, hts, hlk, hA⟩ := id B
  refine x_put B hw (Tb := TX5) inX5 tyX5 tyX5_ok nmX5 1 (by decide) rfl rfl 4 (by decide) u73 (fun _ h => h) rfl (ty := .int) (by decide +kernel) rfl rfl (Nat.le_of_ble_eq_true rfl) (S1 := upI S 1 4 s0) rfl upI_o (fun _ _ => rfl) dX5_step_142 hf (fun S10 H locs hw hf => ?_)
  refine lv_aload_n hx hb dX5_step_145 rfl (lv_at hl 0 rfl) ?_
  refine lv_dup hx hb dX5_step_146 rfl ?_
  refine x_get B hw (Tb := TX5) inX5 1 (by decide) rfl rfl 2 (by decide) u69 (fun _ h => h) rfl dX5_step_147 ?_
  refine lv_iconst (v := 1) hx hb dX5_step_150 (by decide) ?_
  refine lv_iadd hx hb dX5_step_151 ?_
  refine x_put B hw (Tb := TX5) inX5 tyX5 tyX5_ok nmX5 1 (by decide) rfl rfl 2 (by decide) u69 (fun _ h => h) rfl (ty := .int) (by decide +kernel) rfl rfl (Nat.le_of_ble_eq_true rfl) (S1 := upI S10 1 2 ((S10.1 1 2) + 1)) rfl upI_o (fun _ _ => rfl) dX5_step_152 hf (fun S11 H locs hw hf => ?_)
  exact x_vret B hw hf dX5_step_155

set_option maxHeartbeats 4000000 in
theorem jText_step_b38_ok (B : XB p s m args meth c A cX5_step 1 none RX5) {SF : St}  (S : St) {H : Heap} {locs : List Loc} {ls : Array Slot} (hf : jText_step_b38 S = some SF) (hw : Xw D 40 (cellC T q) q T (ExC aK aV) A s S H locs) (hl : lv_has ls 1 [(0, .ref (q 1))]) : XG p l e ({ frames := 7, cells := 0, slots := 0, locals := 183 }) s m args below meth c D 40 (cellC T q) q T A SF none H locs 38 ls [] := by
  unfold jText_step_b38 at hf
  obtain ⟨hx, hb, hr, hml, hown, hts, hlk, hA⟩ := id B
  refine lv_aload_n hx hb dX5_step_38 rfl (lv_at hl 0 rfl) ?_
  refine lv_aload_n hx hb dX5_step_39 rfl (lv_at hl 0 rfl) ?_
  refine x_get B hw (Tb := TX5) inX5 1 (by decide) rfl rfl 2 (by decide) u69 (fun _ h => h) rfl dX5_step_40 ?_
  refine x_put B hw (Tb := TX5) inX5 tyX5 tyX5_ok nmX5 1 (by decide) rfl rfl 3 (by decide) u71 (fun _ h => h) rfl (ty := .int) (by decide +kernel) rfl rfl (Nat.le_of_ble_eq_true rfl) (S1 := upI S 1 3 (S.1 1 2)) rfl upI_o (fun _ _ => rfl) dX5_step_43 hf (fun S1 H locs hw hf => ?_)
  refine lv_aload_n hx hb dX5_step_46 rfl (lv_at hl 0 rfl) ?_
  refine lv_iconst (v := 0) hx hb dX5_step_47 (by decide) ?_
  refine x_put B hw (Tb := TX5) inX5 tyX5 tyX5_ok nmX5 1 (by decide) rfl rfl 5 (by decide) u75 (fun _ h => h) rfl (ty := .int) (by decide +kernel) rfl rfl (Nat.le_of_ble_eq_true rfl) (S1 := upI S1 1 5 0) rfl upI_o (fun _ _ => rfl) dX5_step_48 hf (fun S2 H locs hw hf => ?_)
  refine lv_aload_n hx hb dX5_step_51 rfl (lv_at hl 0 rfl) ?_
  refine x_get B hw (Tb := TX5) inX5 1 (by decide) rfl rfl 2 (by decide) u69 (fun _ h => h) rfl dX5_step_52 ?_
  refine lv_aload_n hx hb dX5_step_55 rfl (lv_at hl 0 rfl) ?_
  refine x_get B hw (Tb := TX5) inX5 1 (by decide) rfl rfl 1 (by decide) u67 (fun _ h => h) rfl dX5_step_56 ?_
  refine lv_icmp_lt (tgt := 70) hx hb dX5_step_59 (by decide) (fun hc => ?_) (fun hc => ?_)
  · have hf := x_pos hc hf
    refine lv_aload_n hx hb dX5_step_70 rfl (lv_at hl 0 rfl) ?_
    refine x_get B hw (Tb := TX5) inX5 1 (by decide) rfl rfl 0 (by decide) u66 (fun _ h => h) rfl dX5_step_71 ?_
    refine lv_aload_n hx hb dX5_step_74 rfl (lv_at hl 0 rfl) ?_
    refine x_get B hw (Tb := TX5) inX5 1 (by decide) rfl rfl 2 (by decide) u69 (fun _ h => h) rfl dX5_step_75 ?_
    refine x_iald B hw 2 (by decide) rfl dX5_step_78 hf (fun v3 hf => ?_)
    obtain ⟨v5, S4, hc, hf⟩ := x_bd_some hf
    refine x_callS B ExC_ok hw (As := [.int v3]) (rest := []) (st1 := [.int v5]) (jText_isDigit_ok hc) u289 u290 u39 u291 hdX5_isDigit rfl ⟨Nat.le_of_ble_eq_true rfl, Nat.le_of_ble_eq_true rfl⟩ ⟨rfl, rfl⟩ hl.1 (Nat.le_of_ble_eq_true rfl) dX5_step_79 (fun H locs hw => ?_) rfl rfl
    refine lv_if_eq (tgt := 96) hx hb dX5_step_82 (by decide) (fun hc => ?_) (fun hc => ?_)
    · have hf := x_pos hc hf
      refine lv_aload_n hx hb dX5_step_96 rfl (lv_at hl 0 rfl) ?_
      refine x_get B hw (Tb := TX5) inX5 1 (by decide) rfl rfl 0 (by decide) u66 (fun _ h => h) rfl dX5_step_97 ?_
      refine lv_aload_n hx hb dX5_step_100 rfl (lv_at hl 0 rfl) ?_
      refine x_get B hw (Tb := TX5) inX5 1 (by decide) rfl rfl 2 (by decide) u69 (fun _ h => h) rfl dX5_step_101 ?_
      refine x_iald B hw 2 (by decide) rfl dX5_step_104 hf (fun v6 hf => ?_)
      obtain ⟨v8, S7, hc, hf⟩ := x_bd_some hf
      refine x_callS B ExC_ok hw (As := [.int v6]) (rest := []) (st1 := [.int v8]) (jText_isLetter_ok hc) u296 u297 u39 u298 hdX5_isLetter rfl ⟨Nat.le_of_ble_eq_true rfl, Nat.le_of_ble_eq_true rfl⟩ ⟨rfl, rfl⟩ hl.1 (Nat.le_of_ble_eq_true rfl) dX5_step_105 (fun H locs hw => ?_) rfl rfl
      refine lv_if_eq (tgt := 122) hx hb dX5_step_108 (by decide) (fun hc => ?_) (fun hc => ?_)
      · have hf := x_pos hc hf
        refine lv_aload_n hx hb dX5_step_122 rfl (lv_at hl 0 rfl) ?_
        refine lv_aload_n hx hb dX5_step_123 rfl (lv_at hl 0 rfl) ?_
        refine x_get B hw (Tb := TX5) inX5 1 (by decide) rfl rfl 0 (by decide) u66 (fun _ h => h) rfl dX5_step_124 ?_
        refine lv_aload_n hx hb dX5_step_127 rfl (lv_at hl 0 rfl) ?_
        refine x_get B hw (Tb := TX5) inX5 1 (by decide) rfl rfl 2 (by decide) u69 (fun _ h => h) rfl dX5_step_128 ?_
        refine x_iald B hw 2 (by decide) rfl dX5_step_131 hf (fun v9 hf => ?_)
        refine lv_bipush (v := 59) hx hb dX5_step_132 (by decide) ?_
        refine lv_icmp_ne (tgt := 141) hx hb dX5_step_134 (by decide) (fun hc => ?_) (fun hc => ?_)
        · have hf := x_neg hc hf
          refine lv_iconst (v := 1) hx hb dX5_step_141 (by decide) ?_
          exact jText_step_b142_ok B 1 S7 hf hw (lv_sub hl [0] rfl)
        · have hf := x_pos hc hf
          refine lv_iconst (v := 3) hx hb dX5_step_137 (by decide) ?_
          refine lv_goto (tgt := 142) hx hb dX5_step_138 (by decide) ?_
          exact jText_step_b142_ok B 3 S7 hf hw (lv_sub hl [0] rfl)
      · have hf := x_neg hc hf
        refine lv_aload_n hx hb dX5_step_111 rfl (lv_at hl 0 rfl) ?_
        refine lv_aload_n hx hb dX5_step_112 rfl (lv_at hl 0 rfl) ?_
        obtain ⟨v13, S12, hc, hf⟩ := x_bd_some hf
        refine x_callV B ExC_ok hw 1 (by decide) rfl rfl (As := []) (rest := [.ref (q 1)]) (st1 := [.int v13, .ref (q 1)]) (jText_readName_ok hc) u299 u301 u1 u39 u302 hdX5_readName rfl ⟨Nat.le_of_ble_eq_true rfl, Nat.le_of_ble_eq_true rfl⟩ ⟨rfl, rfl⟩ hl.1 (Nat.le_of_ble_eq_true rfl) dX5_step_113 (fun H locs hw => ?_) rfl rfl
        refine x_put B hw (Tb := TX5) inX5 tyX5 tyX5_ok nmX5 1 (by decide) rfl rfl 4 (by decide) u73 (fun _ h => h) rfl (ty := .int) (by decide +kernel) rfl rfl (Nat.le_of_ble_eq_true rfl) (S1 := upI S12 1 4 v13) rfl upI_o (fun _ _ => rfl) dX5_step_116 hf (fun S14 H locs hw hf => ?_)
        refine lv_goto (tgt := 155) hx hb dX5_step_119 (by decide) ?_
        exact x_vret B hw hf dX5_step_155
    · have hf := x_neg hc hf
      refine lv_aload_n hx hb dX5_step_85 rfl (lv_at hl 0 rfl) ?_
      refine lv_aload_n hx hb dX5_step_86 rfl (lv_at hl 0 rfl) ?_
      obtain ⟨v16, S15, hc, hf⟩ := x_bd_some hf
      refine x_callV B ExC_ok hw 1 (by decide) rfl rfl (As := []) (rest := [.ref (q 1)]) (st1 := [.int v16, .ref (q 1)]) (jText_readNumber_ok hc) u292 u294 u0 u39 u295 hdX5_readNumber rfl ⟨Nat.le_of_ble_eq_true rfl, Nat.le_of_ble_eq_true rfl⟩ ⟨rfl, rfl⟩ hl.1 (Nat.le_of_ble_eq_true rfl) dX5_step_87 (fun H locs hw => ?_) rfl rfl
      refine x_put B hw (Tb := TX5) inX5 tyX5 tyX5_ok nmX5 1 (by decide) rfl rfl 4 (by decide) u73 (fun _ h => h) rfl (ty := .int) (by decide +kernel) rfl rfl (Nat.le_of_ble_eq_true rfl) (S1 := upI S15 1 4 v16) rfl upI_o (fun _ _ => rfl) dX5_step_90 hf (fun S17 H locs hw hf => ?_)
      refine lv_goto (tgt := 155) hx hb dX5_step_93 (by decide) ?_
      exact x_vret B hw hf dX5_step_155
  · have hf := x_neg hc hf
    refine lv_aload_n hx hb dX5_step_62 rfl (lv_at hl 0 rfl) ?_
    refine lv_iconst (v := 0) hx hb dX5_step_63 (by decide) ?_
    refine x_put B hw (Tb := TX5) inX5 tyX5 tyX5_ok nmX5 1 (by decide) rfl rfl 4 (by decide) u73 (fun _ h => h) rfl (ty := .int) (by decide +kernel) rfl rfl (Nat.le_of_ble_eq_true rfl) (S1 := upI S2 1 4 0) rfl upI_o (fun _ _ => rfl) dX5_step_64 hf (fun S18 H locs hw hf => ?_)
    refine lv_goto (tgt := 155) hx hb dX5_step_67 (by decide) ?_
    exact x_vret B hw hf dX5_step_155

set_option maxHeartbeats 4000000 in
theorem jText_step_b0_ok (B : XB p s m args meth c A cX5_step 1 none RX5) {SF : St} (K0 : St → Option (St)) (hK0 : ∀ (S : St) (H : Heap) (locs : List Loc) (ls : Array Slot), K0 S = some SF → Xw D 40 (cellC T q) q T (ExC aK aV) A s S H locs → lv_has ls 1 [(0, .ref (q 1))] → XG p l e ({ frames := 7, cells := 0, slots := 0, locals := 183 }) s m args below meth c D 40 (cellC T q) q T A SF none H locs 0 ls [])  (S : St) {H : Heap} {locs : List Loc} {ls : Array Slot} (hf : jText_step_b0 K0 S = some SF) (hw : Xw D 40 (cellC T q) q T (ExC aK aV) A s S H locs) (hl : lv_has ls 1 [(0, .ref (q 1))]) : XG p l e ({ frames := 7, cells := 0, slots := 0, locals := 183 }) s m args below meth c D 40 (cellC T q) q T A SF none H locs 0 ls [] := by
  unfold jText_step_b0 at hf
  obtain ⟨hx, hb, hr, hml, hown, hts, hlk, hA⟩ := id B
  refine lv_aload_n hx hb dX5_step_0 rfl (lv_at hl 0 rfl) ?_
  refine x_get B hw (Tb := TX5) inX5 1 (by decide) rfl rfl 2 (by decide) u69 (fun _ h => h) rfl dX5_step_1 ?_
  refine lv_aload_n hx hb dX5_step_4 rfl (lv_at hl 0 rfl) ?_
  refine x_get B hw (Tb := TX5) inX5 1 (by decide) rfl rfl 1 (by decide) u67 (fun _ h => h) rfl dX5_step_5 ?_
  refine lv_icmp_ge (tgt := 38) hx hb dX5_step_8 (by decide) (fun hc => ?_) (fun hc => ?_)
  · have hf := x_pos hc hf
    exact jText_step_b38_ok B S hf hw (lv_sub hl [0] rfl)
  · have hf := x_neg hc hf
    refine lv_aload_n hx hb dX5_step_11 rfl (lv_at hl 0 rfl) ?_
    refine x_get B hw (Tb := TX5) inX5 1 (by decide) rfl rfl 0 (by decide) u66 (fun _ h => h) rfl dX5_step_12 ?_
    refine lv_aload_n hx hb dX5_step_15 rfl (lv_at hl 0 rfl) ?_
    refine x_get B hw (Tb := TX5) inX5 1 (by decide) rfl rfl 2 (by decide) u69 (fun _ h => h) rfl dX5_step_16 ?_
    refine x_iald B hw 2 (by decide) rfl dX5_step_19 hf (fun v19 hf => ?_)
    refine lv_bipush (v := 32) hx hb dX5_step_20 (by decide) ?_
    refine lv_icmp_ne (tgt := 38) hx hb dX5_step_22 (by decide) (fun hc => ?_) (fun hc => ?_)
    · have hf := x_neg hc hf
      exact jText_step_b38_ok B S hf hw (lv_sub hl [0] rfl)
    · have hf := x_pos hc hf
      refine lv_aload_n hx hb dX5_step_25 rfl (lv_at hl 0 rfl) ?_
      refine lv_dup hx hb dX5_step_26 rfl ?_
      refine x_get B hw (Tb := TX5) inX5 1 (by decide) rfl rfl 2 (by decide) u69 (fun _ h => h) rfl dX5_step_27 ?_
      refine lv_iconst (v := 1) hx hb dX5_step_30 (by decide) ?_
      refine lv_iadd hx hb dX5_step_31 ?_
      refine x_put B hw (Tb := TX5) inX5 tyX5 tyX5_ok nmX5 1 (by decide) rfl rfl 2 (by decide) u69 (fun _ h => h) rfl (ty := .int) (by decide +kernel) rfl rfl (Nat.le_of_ble_eq_true rfl) (S1 := upI S 1 2 ((S.1 1 2) + 1)) rfl upI_o (fun _ _ => rfl) dX5_step_32 hf (fun S20 H locs hw hf => ?_)
      refine lv_goto (tgt := 0) hx hb dX5_step_35 (by decide) ?_
      exact hK0 S20 _ _ _ hf hw (lv_sub hl [0] rfl)

theorem jText_step_h0_ok (B : XB p s m args meth c A cX5_step 1 none RX5) {SF : St} : ∀ (n : Nat) (S : St) (H : Heap) (locs : List Loc) (ls : Array Slot), jText_step_h0 n S = some SF → Xw D 40 (cellC T q) q T (ExC aK aV) A s S H locs → lv_has ls 1 [(0, .ref (q 1))] → XG p l e ({ frames := 7, cells := 0, slots := 0, locals := 183 }) s m args below meth c D 40 (cellC T q) q T A SF none H locs 0 ls [] := by
  intro n
  induction n with
  | zero =>
    intro S H locs ls hf hw hl
    rw [jText_step_h0] at hf
    cases hf
  | succ n ih =>
    intro S H locs ls hf hw hl
    rw [jText_step_h0] at hf
    exact jText_step_b0_ok B (jText_step_h0 n) ih S hf hw hl

set_option maxHeartbeats 4000000 in
theorem jText_step_ok {S SF : St} (hf : jText_step S = some SF) : XMet l D 40 (cellC T q) q T (ExC aK aV) yX5_step cX5_step 1 none ({ frames := 7, cells := 0, slots := 0, locals := 183 }) [.ref (q 1)] S none SF := by
  refine x_enter (own := RX5) (by decide +kernel) rfl (Nat.le_of_ble_eq_true rfl) (fun p e s m below meth c A B ls hw hl0 => ?_)
  have hl : lv_has ls 1 [(0, .ref (q 1))] := hl0
  unfold jText_step at hf
  exact jText_step_h0_ok B FU S _ _ _ hf hw hl

set_option maxHeartbeats 4000000 in
theorem jText_rewind_b0_ok (B : XB p s m args meth c A cX5_rewind 1 none RX5) {SF : St}  (S : St) {H : Heap} {locs : List Loc} {ls : Array Slot} (hf : jText_rewind S = some SF) (hw : Xw D 40 (cellC T q) q T (ExC aK aV) A s S H locs) (hl : lv_has ls 1 [(0, .ref (q 1))]) : XG p l e ({ frames := 8, cells := 0, slots := 0, locals := 203 }) s m args below meth c D 40 (cellC T q) q T A SF none H locs 0 ls [] := by
  unfold jText_rewind at hf
  obtain ⟨hx, hb, hr, hml, hown, hts, hlk, hA⟩ := id B
  refine lv_aload_n hx hb dX5_rewind_0 rfl (lv_at hl 0 rfl) ?_
  refine lv_iconst (v := 0) hx hb dX5_rewind_1 (by decide) ?_
  refine x_put B hw (Tb := TX5) inX5 tyX5 tyX5_ok nmX5 1 (by decide) rfl rfl 2 (by decide) u69 (fun _ h => h) rfl (ty := .int) (by decide +kernel) rfl rfl (Nat.le_of_ble_eq_true rfl) (S1 := upI S 1 2 0) rfl upI_o (fun _ _ => rfl) dX5_rewind_2 hf (fun S1 H locs hw hf => ?_)
  refine lv_aload_n hx hb dX5_rewind_5 rfl (lv_at hl 0 rfl) ?_
  obtain ⟨S2, hc, hf⟩ := x_bv_some hf
  refine x_callV B ExC_ok hw 1 (by decide) rfl rfl (As := []) (rest := []) (st1 := []) (jText_step_ok hc) u285 u286 u287 u39 u288 hdX5_step rfl ⟨Nat.le_of_ble_eq_true rfl, Nat.le_of_ble_eq_true rfl⟩ ⟨rfl, rfl⟩ hl.1 (Nat.le_of_ble_eq_true rfl) dX5_rewind_6 (fun H locs hw => ?_) rfl rfl
  exact x_vret B hw hf dX5_rewind_9

set_option maxHeartbeats 4000000 in
theorem jText_rewind_ok {S SF : St} (hf : jText_rewind S = some SF) : XMet l D 40 (cellC T q) q T (ExC aK aV) yX5_rewind cX5_rewind 1 none ({ frames := 8, cells := 0, slots := 0, locals := 203 }) [.ref (q 1)] S none SF := by
  refine x_enter (own := RX5) (by decide +kernel) rfl (Nat.le_of_ble_eq_true rfl) (fun p e s m below meth c A B ls hw hl0 => ?_)
  have hl : lv_has ls 1 [(0, .ref (q 1))] := hl0
  exact jText_rewind_b0_ok B S hf hw hl

set_option maxHeartbeats 4000000 in
theorem jTelling_mayBegin_b0_ok (B : XB p s m args meth c A cX4_mayBegin 2 (some .boolean) RX4) {SF : St} {r : Int32}  (x1 : Int32) (S : St) {H : Heap} {locs : List Loc} {ls : Array Slot} (hf : jTelling_mayBegin x1 S = some (r, SF)) (hw : Xw D 40 (cellC T q) q T (ExC aK aV) A s S H locs) (hl : lv_has ls 2 [(0, .ref (q 3)), (1, .int x1)]) : XG p l e ({ frames := 0, cells := 0, slots := 0, locals := 0 }) s m args below meth c D 40 (cellC T q) q T A SF (some (.int r)) H locs 0 ls [] := by
  unfold jTelling_mayBegin at hf
  obtain ⟨hx, hb, hr, hml, hown, hts, hlk, hA⟩ := id B
  refine lv_iload_n hx hb dX4_mayBegin_0 rfl (lv_at hl 1 rfl) ?_
  by_cases hc4 : x1 = 4
  · have hf := x_pos hc4 hf
    refine lv_tableIn (off := 27) (tgt := 28) hx hb dX4_mayBegin_1 (by rw [hc4]; decide) (by rw [hc4]; decide) (by rw [hc4]; decide) (by decide) ?_
    refine lv_aload_n hx hb dX4_mayBegin_28 rfl (lv_at hl 0 rfl) ?_
    refine x_get B hw (Tb := TX4) inX4 3 (by decide) rfl rfl 1 (by decide) u170 (fun _ h => h) rfl dX4_mayBegin_29 ?_
    refine x_get B hw (Tb := TX3) inX3 9 (by decide) rfl rfl 3 (by decide) u139 (fun _ h => h) rfl dX4_mayBegin_32 ?_
    refine lv_bipush (v := 6) hx hb dX4_mayBegin_35 (by decide) ?_
    refine lv_icmp_ge (tgt := 44) hx hb dX4_mayBegin_37 (by decide) (fun hc => ?_) (fun hc => ?_)
    · have hf := x_pos hc hf
      refine lv_iconst (v := 0) hx hb dX4_mayBegin_44 (by decide) ?_
      exact x_zret B hw hf dX4_mayBegin_45
    · have hf := x_neg hc hf
      refine lv_iconst (v := 1) hx hb dX4_mayBegin_40 (by decide) ?_
      refine lv_goto (tgt := 45) hx hb dX4_mayBegin_41 (by decide) ?_
      exact x_zret B hw hf dX4_mayBegin_45
  have hf := x_neg hc4 hf
  by_cases hc5 : x1 = 5
  · have hf := x_pos hc5 hf
    refine lv_tableIn (off := 45) (tgt := 46) hx hb dX4_mayBegin_1 (by rw [hc5]; decide) (by rw [hc5]; decide) (by rw [hc5]; decide) (by decide) ?_
    refine lv_aload_n hx hb dX4_mayBegin_46 rfl (lv_at hl 0 rfl) ?_
    refine x_get B hw (Tb := TX4) inX4 3 (by decide) rfl rfl 0 (by decide) u168 (fun _ h => h) rfl dX4_mayBegin_47 ?_
    refine x_get B hw (Tb := TX1) inX1 4 (by decide) rfl rfl 4 (by decide) u113 (fun _ h => h) rfl dX4_mayBegin_50 ?_
    refine lv_bipush (v := 8) hx hb dX4_mayBegin_53 (by decide) ?_
    refine lv_icmp_ge (tgt := 62) hx hb dX4_mayBegin_55 (by decide) (fun hc => ?_) (fun hc => ?_)
    · have hf := x_pos hc hf
      refine lv_iconst (v := 0) hx hb dX4_mayBegin_62 (by decide) ?_
      exact x_zret B hw hf dX4_mayBegin_63
    · have hf := x_neg hc hf
      refine lv_iconst (v := 1) hx hb dX4_mayBegin_58 (by decide) ?_
      refine lv_goto (tgt := 63) hx hb dX4_mayBegin_59 (by decide) ?_
      exact x_zret B hw hf dX4_mayBegin_63
  have hf := x_neg hc5 hf
  by_cases hc6 : x1 = 6
  · have hf := x_pos hc6 hf
    refine lv_tableIn (off := 63) (tgt := 64) hx hb dX4_mayBegin_1 (by rw [hc6]; decide) (by rw [hc6]; decide) (by rw [hc6]; decide) (by decide) ?_
    refine lv_aload_n hx hb dX4_mayBegin_64 rfl (lv_at hl 0 rfl) ?_
    refine x_get B hw (Tb := TX4) inX4 3 (by decide) rfl rfl 3 (by decide) u173 (fun _ h => h) rfl dX4_mayBegin_65 ?_
    refine lv_if_ne (tgt := 75) hx hb dX4_mayBegin_68 (by decide) (fun hc => ?_) (fun hc => ?_)
    · have hf := x_neg hc hf
      refine lv_iconst (v := 0) hx hb dX4_mayBegin_75 (by decide) ?_
      exact x_zret B hw hf dX4_mayBegin_76
    · have hf := x_pos hc hf
      refine lv_iconst (v := 1) hx hb dX4_mayBegin_71 (by decide) ?_
      refine lv_goto (tgt := 76) hx hb dX4_mayBegin_72 (by decide) ?_
      exact x_zret B hw hf dX4_mayBegin_76
  have hf := x_neg hc6 hf
  have hd4 : ¬ Int32.toInt x1 = 4 := x_ne hc4 (by decide)
  have hd5 : ¬ Int32.toInt x1 = 5 := x_ne hc5 (by decide)
  have hd6 : ¬ Int32.toInt x1 = 6 := x_ne hc6 (by decide)
  refine lv_tableOut (tgt := 77) hx hb dX4_mayBegin_1 (by omega) (by decide) ?_
  refine lv_iconst (v := 0) hx hb dX4_mayBegin_77 (by decide) ?_
  exact x_zret B hw hf dX4_mayBegin_78

set_option maxHeartbeats 4000000 in
theorem jTelling_mayBegin_ok {x1 : Int32} {S SF : St} {r : Int32} (hf : jTelling_mayBegin x1 S = some (r, SF)) : XMet l D 40 (cellC T q) q T (ExC aK aV) yX4_mayBegin cX4_mayBegin 2 (some .boolean) ({ frames := 0, cells := 0, slots := 0, locals := 0 }) [.ref (q 3), .int x1] S (some (.int r)) SF := by
  refine x_enter (own := RX4) (by decide +kernel) rfl (Nat.le_of_ble_eq_true rfl) (fun p e s m below meth c A B ls hw hl0 => ?_)
  have hl : lv_has ls 2 [(0, .ref (q 3)), (1, .int x1)] := hl0
  exact jTelling_mayBegin_b0_ok B x1 S hf hw hl

set_option maxHeartbeats 4000000 in
theorem jTelling_numbersOf_b0_ok (B : XB p s m args meth c A cX4_numbersOf 1 (some .int) RX4) {SF : St} {r : Int32}  (x0 : Int32) (S : St) {H : Heap} {locs : List Loc} {ls : Array Slot} (hf : jTelling_numbersOf x0 S = some (r, SF)) (hw : Xw D 40 (cellC T q) q T (ExC aK aV) A s S H locs) (hl : lv_has ls 1 [(0, .int x0)]) : XG p l e ({ frames := 0, cells := 0, slots := 0, locals := 0 }) s m args below meth c D 40 (cellC T q) q T A SF (some (.int r)) H locs 0 ls [] := by
  unfold jTelling_numbersOf at hf
  obtain ⟨hx, hb, hr, hml, hown, hts, hlk, hA⟩ := id B
  refine lv_iload_n hx hb dX4_numbersOf_0 rfl (lv_at hl 0 rfl) ?_
  by_cases hc4 : x0 = 4
  · have hf := x_pos hc4 hf
    refine lv_tableIn (off := 27) (tgt := 28) hx hb dX4_numbersOf_1 (by rw [hc4]; decide) (by rw [hc4]; decide) (by rw [hc4]; decide) (by decide) ?_
    refine lv_iconst (v := 5) hx hb dX4_numbersOf_28 (by decide) ?_
    exact x_iret B hw hf dX4_numbersOf_29
  have hf := x_neg hc4 hf
  by_cases hc5 : x0 = 5
  · have hf := x_pos hc5 hf
    refine lv_tableIn (off := 29) (tgt := 30) hx hb dX4_numbersOf_1 (by rw [hc5]; decide) (by rw [hc5]; decide) (by rw [hc5]; decide) (by decide) ?_
    refine lv_bipush (v := 7) hx hb dX4_numbersOf_30 (by decide) ?_
    exact x_iret B hw hf dX4_numbersOf_32
  have hf := x_neg hc5 hf
  by_cases hc6 : x0 = 6
  · have hf := x_pos hc6 hf
    refine lv_tableIn (off := 32) (tgt := 33) hx hb dX4_numbersOf_1 (by rw [hc6]; decide) (by rw [hc6]; decide) (by rw [hc6]; decide) (by decide) ?_
    refine lv_iconst (v := 1) hx hb dX4_numbersOf_33 (by decide) ?_
    exact x_iret B hw hf dX4_numbersOf_34
  have hf := x_neg hc6 hf
  have hd4 : ¬ Int32.toInt x0 = 4 := x_ne hc4 (by decide)
  have hd5 : ¬ Int32.toInt x0 = 5 := x_ne hc5 (by decide)
  have hd6 : ¬ Int32.toInt x0 = 6 := x_ne hc6 (by decide)
  refine lv_tableOut (tgt := 35) hx hb dX4_numbersOf_1 (by omega) (by decide) ?_
  refine lv_iconst (v := 0) hx hb dX4_numbersOf_35 (by decide) ?_
  exact x_iret B hw hf dX4_numbersOf_36

set_option maxHeartbeats 4000000 in
theorem jTelling_numbersOf_ok {x0 : Int32} {S SF : St} {r : Int32} (hf : jTelling_numbersOf x0 S = some (r, SF)) : XMet l D 40 (cellC T q) q T (ExC aK aV) yX4_numbersOf cX4_numbersOf 1 (some .int) ({ frames := 0, cells := 0, slots := 0, locals := 0 }) [.int x0] S (some (.int r)) SF := by
  refine x_enter (own := RX4) (by decide +kernel) rfl (Nat.le_of_ble_eq_true rfl) (fun p e s m below meth c A B ls hw hl0 => ?_)
  have hl : lv_has ls 1 [(0, .int x0)] := hl0
  exact jTelling_numbersOf_b0_ok B x0 S hf hw hl
end
