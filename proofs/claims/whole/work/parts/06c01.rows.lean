section
variable {p : Program} {l : Launch} {e : Env} {s : State} {m : MethodId} {args : Array Value} {below : List Frame} {meth : Method} {c : Code} {D : va_G} {q aK aV : Nat → Nat} {T : Nat → ClassId} {A : Nat → Prop}
set_option maxHeartbeats 4000000 in
theorem jMenu_list_b21_ok (B : XB p s m args meth c A cX1_list 4 none RX1) {SF : St} (K21 : Int32 → Int32 → St → Option (St)) (hK21 : ∀ (x2 : Int32) (x3 : Int32) (S : St) (H : Heap) (locs : List Loc) (ls : Array Slot), K21 x2 x3 S = some SF → Xw D 40 (cellC T q) q T (ExC aK aV) A s S H locs → lv_has ls 4 [(0, .ref (q 4)), (1, .ref (q 13)), (2, .int x2), (3, .int x3)] → XG p l e ({ frames := 0, cells := 0, slots := 0, locals := 0 }) s m args below meth c D 40 (cellC T q) q T A SF none H locs 21 ls [])  (x2 : Int32) (x3 : Int32) (S : St) {H : Heap} {locs : List Loc} {ls : Array Slot} (hf : jMenu_list_b21 K21 x2 x3 S = some SF) (hw : Xw D 40 (cellC T q) q T (ExC aK aV) A s S H locs) (hl : lv_has ls 4 [(0, .ref (q 4)), (1, .ref (q 13)), (2, .int x2), (3, .int x3)]) : XG p l e ({ frames := 0, cells := 0, slots := 0, locals := 0 }) s m args below meth c D 40 (cellC T q) q T A SF none H locs 21 ls [] := by
  unfold jMenu_list_b21 at hf
  obtain ⟨hx, hb, hr, hml, hown, hts, hlk, hA⟩ := id B
  refine lv_iload_n hx hb dX1_list_21 rfl (lv_at hl 3 rfl) ?_
  refine lv_iconst (v := 5) hx hb dX1_list_22 (by decide) ?_
  refine lv_icmp_ge (tgt := 54) hx hb dX1_list_23 (by decide) (fun hc => ?_) (fun hc => ?_)
  · have hf := x_pos hc hf
    refine lv_aload_n hx hb dX1_list_54 rfl (lv_at hl 0 rfl) ?_
    refine x_get B hw (Tb := TX1) inX1 4 (by decide) rfl rfl 1 (by decide) u103 (fun _ h => h) rfl dX1_list_55 ?_
    refine lv_aload_n hx hb dX1_list_58 rfl (lv_at hl 0 rfl) ?_
    refine x_get B hw (Tb := TX1) inX1 4 (by decide) rfl rfl 4 (by decide) u112 (fun _ h => h) rfl dX1_list_59 ?_
    refine lv_iload_n hx hb dX1_list_62 rfl (lv_at hl 2 rfl) ?_
    refine x_iast B hw 6 (by decide) (fun _ _ => rfl) dX1_list_63 hf (fun S1 H locs hw hf => ?_)
    refine lv_aload_n hx hb dX1_list_64 rfl (lv_at hl 0 rfl) ?_
    refine x_get B hw (Tb := TX1) inX1 4 (by decide) rfl rfl 2 (by decide) u106 (fun _ h => h) rfl dX1_list_65 ?_
    refine lv_aload_n hx hb dX1_list_68 rfl (lv_at hl 0 rfl) ?_
    refine x_get B hw (Tb := TX1) inX1 4 (by decide) rfl rfl 4 (by decide) u112 (fun _ h => h) rfl dX1_list_69 ?_
    refine lv_aload_n hx hb dX1_list_72 rfl (lv_at hl 1 rfl) ?_
    refine lv_iconst (v := 5) hx hb dX1_list_73 (by decide) ?_
    refine x_iald B hw 13 (by decide) rfl dX1_list_74 hf (fun v2 hf => ?_)
    refine x_iast B hw 7 (by decide) (fun _ _ => rfl) dX1_list_75 hf (fun S3 H locs hw hf => ?_)
    refine lv_aload_n hx hb dX1_list_76 rfl (lv_at hl 0 rfl) ?_
    refine x_get B hw (Tb := TX1) inX1 4 (by decide) rfl rfl 3 (by decide) u109 (fun _ h => h) rfl dX1_list_77 ?_
    refine lv_aload_n hx hb dX1_list_80 rfl (lv_at hl 0 rfl) ?_
    refine x_get B hw (Tb := TX1) inX1 4 (by decide) rfl rfl 4 (by decide) u112 (fun _ h => h) rfl dX1_list_81 ?_
    refine lv_aload_n hx hb dX1_list_84 rfl (lv_at hl 1 rfl) ?_
    refine lv_bipush (v := 6) hx hb dX1_list_85 (by decide) ?_
    refine x_iald B hw 13 (by decide) rfl dX1_list_87 hf (fun v4 hf => ?_)
    refine x_iast B hw 8 (by decide) (fun _ _ => rfl) dX1_list_88 hf (fun S5 H locs hw hf => ?_)
    refine lv_aload_n hx hb dX1_list_89 rfl (lv_at hl 0 rfl) ?_
    refine lv_dup hx hb dX1_list_90 rfl ?_
    refine x_get B hw (Tb := TX1) inX1 4 (by decide) rfl rfl 4 (by decide) u112 (fun _ h => h) rfl dX1_list_91 ?_
    refine lv_iconst (v := 1) hx hb dX1_list_94 (by decide) ?_
    refine lv_iadd hx hb dX1_list_95 ?_
    refine x_put B hw (Tb := TX1) inX1 tyX1 tyX1_ok nmX1 4 (by decide) rfl rfl 4 (by decide) u112 (fun _ h => h) rfl (ty := .int) (by decide +kernel) rfl rfl (Nat.le_of_ble_eq_true rfl) (S1 := upI S5 4 4 ((S5.1 4 4) + 1)) rfl upI_o (fun _ _ => rfl) dX1_list_96 hf (fun S6 H locs hw hf => ?_)
    exact x_vret B hw hf dX1_list_99
  · have hf := x_neg hc hf
    refine lv_aload_n hx hb dX1_list_26 rfl (lv_at hl 0 rfl) ?_
    refine x_get B hw (Tb := TX1) inX1 4 (by decide) rfl rfl 0 (by decide) u102 (fun _ h => h) rfl dX1_list_27 ?_
    refine lv_aload_n hx hb dX1_list_30 rfl (lv_at hl 0 rfl) ?_
    refine x_get B hw (Tb := TX1) inX1 4 (by decide) rfl rfl 4 (by decide) u112 (fun _ h => h) rfl dX1_list_31 ?_
    refine lv_iconst (v := 5) hx hb dX1_list_34 (by decide) ?_
    refine lv_imul hx hb dX1_list_35 ?_
    refine lv_iload_n hx hb dX1_list_36 rfl (lv_at hl 3 rfl) ?_
    refine lv_iadd hx hb dX1_list_37 ?_
    refine lv_aload_n hx hb dX1_list_38 rfl (lv_at hl 1 rfl) ?_
    refine lv_iload_n hx hb dX1_list_39 rfl (lv_at hl 3 rfl) ?_
    refine x_iald B hw 13 (by decide) rfl dX1_list_40 hf (fun v7 hf => ?_)
    refine x_iast B hw 5 (by decide) (fun _ _ => rfl) dX1_list_41 hf (fun S8 H locs hw hf => ?_)
    refine lv_iload_n hx hb dX1_list_42 rfl (lv_at hl 2 rfl) ?_
    refine lv_aload_n hx hb dX1_list_43 rfl (lv_at hl 1 rfl) ?_
    refine lv_iload_n hx hb dX1_list_44 rfl (lv_at hl 3 rfl) ?_
    refine x_iald B hw 13 (by decide) rfl dX1_list_45 hf (fun v9 hf => ?_)
    refine lv_iadd hx hb dX1_list_46 ?_
    refine x_leti hf (fun v10 hf => ?_)
    refine lv_istore_n (lv' := [(2, .int v10), (0, .ref (q 4)), (1, .ref (q 13)), (3, .int x3)]) hx hb dX1_list_47 rfl hl (by decide) rfl (fun ls hl => ?_)
    refine lv_iinc (v := x3 + 1) (lv' := [(3, .int (x3 + 1)), (2, .int v10), (0, .ref (q 4)), (1, .ref (q 13))]) hx hb dX1_list_48 hl (k := 3) rfl xi_1 (by decide) rfl (fun ls hl => ?_)
    refine lv_goto (tgt := 21) hx hb dX1_list_51 (by decide) ?_
    exact hK21 v10 (x3 + 1) S8 _ _ _ hf hw (lv_sub hl [2, 3, 1, 0] rfl)

theorem jMenu_list_h21_ok (B : XB p s m args meth c A cX1_list 4 none RX1) {SF : St} : ∀ (n : Nat) (x2 : Int32) (x3 : Int32) (S : St) (H : Heap) (locs : List Loc) (ls : Array Slot), jMenu_list_h21 n x2 x3 S = some SF → Xw D 40 (cellC T q) q T (ExC aK aV) A s S H locs → lv_has ls 4 [(0, .ref (q 4)), (1, .ref (q 13)), (2, .int x2), (3, .int x3)] → XG p l e ({ frames := 0, cells := 0, slots := 0, locals := 0 }) s m args below meth c D 40 (cellC T q) q T A SF none H locs 21 ls [] := by
  intro n
  induction n with
  | zero =>
    intro x2 x3 S H locs ls hf hw hl
    rw [jMenu_list_h21] at hf
    cases hf
  | succ n ih =>
    intro x2 x3 S H locs ls hf hw hl
    rw [jMenu_list_h21] at hf
    exact jMenu_list_b21_ok B (jMenu_list_h21 n) ih x2 x3 S hf hw hl

set_option maxHeartbeats 4000000 in
theorem jMenu_list_b0_ok (B : XB p s m args meth c A cX1_list 4 none RX1) {SF : St}  (S : St) {H : Heap} {locs : List Loc} {ls : Array Slot} (hf : jMenu_list S = some SF) (hw : Xw D 40 (cellC T q) q T (ExC aK aV) A s S H locs) (hl : lv_has ls 4 [(0, .ref (q 4)), (1, .ref (q 13))]) : XG p l e ({ frames := 0, cells := 0, slots := 0, locals := 0 }) s m args below meth c D 40 (cellC T q) q T A SF none H locs 0 ls [] := by
  unfold jMenu_list at hf
  obtain ⟨hx, hb, hr, hml, hown, hts, hlk, hA⟩ := id B
  refine lv_aload_n hx hb dX1_list_0 rfl (lv_at hl 0 rfl) ?_
  refine x_get B hw (Tb := TX1) inX1 4 (by decide) rfl rfl 4 (by decide) u112 (fun _ h => h) rfl dX1_list_1 ?_
  refine lv_bipush (v := 8) hx hb dX1_list_4 (by decide) ?_
  refine lv_icmp_ge (tgt := 16) hx hb dX1_list_6 (by decide) (fun hc => ?_) (fun hc => ?_)
  · have hf := x_pos hc hf
    exact x_vret B hw hf dX1_list_16
  · have hf := x_neg hc hf
    refine lv_aload_n hx hb dX1_list_9 rfl (lv_at hl 1 rfl) ?_
    refine x_alen B hw 13 (by decide) 0 rfl rfl (v := 7) rfl dX1_list_10 ?_
    refine lv_bipush (v := 7) hx hb dX1_list_11 (by decide) ?_
    refine lv_icmp_ge (tgt := 17) hx hb dX1_list_13 (by decide) (fun hc => ?_) (fun hc => ?_)
    · have hf := x_pos hc hf
      refine lv_iconst (v := 0) hx hb dX1_list_17 (by decide) ?_
      refine lv_istore_n (lv' := [(2, .int 0), (0, .ref (q 4)), (1, .ref (q 13))]) hx hb dX1_list_18 rfl hl (by decide) rfl (fun ls hl => ?_)
      refine lv_iconst (v := 0) hx hb dX1_list_19 (by decide) ?_
      refine lv_istore_n (lv' := [(3, .int 0), (2, .int 0), (0, .ref (q 4)), (1, .ref (q 13))]) hx hb dX1_list_20 rfl hl (by decide) rfl (fun ls hl => ?_)
      exact jMenu_list_h21_ok B FU 0 0 S _ _ _ hf hw (lv_sub hl [2, 3, 1, 0] rfl)
    · have hf := x_neg hc hf
      exact x_vret B hw hf dX1_list_16

set_option maxHeartbeats 4000000 in
theorem jMenu_list_ok {S SF : St} (hf : jMenu_list S = some SF) : XMet l D 40 (cellC T q) q T (ExC aK aV) yX1_list cX1_list 4 none ({ frames := 0, cells := 0, slots := 0, locals := 0 }) [.ref (q 4), .ref (q 13)] S none SF := by
  refine x_enter (own := RX1) (by decide +kernel) rfl (Nat.le_of_ble_eq_true rfl) (fun p e s m below meth c A B ls hw hl0 => ?_)
  have hl : lv_has ls 4 [(0, .ref (q 4)), (1, .ref (q 13))] := hl0
  exact jMenu_list_b0_ok B S hf hw hl

set_option maxHeartbeats 4000000 in
theorem jSuppers_settle_b18_ok (B : XB p s m args meth c A cX3_settle 3 none RX3) {SF : St} (K18 : Int32 → St → Option (St)) (hK18 : ∀ (x2 : Int32) (S : St) (H : Heap) (locs : List Loc) (ls : Array Slot), K18 x2 S = some SF → Xw D 40 (cellC T q) q T (ExC aK aV) A s S H locs → lv_has ls 3 [(0, .ref (q 9)), (1, .ref (q 13)), (2, .int x2)] → XG p l e ({ frames := 0, cells := 0, slots := 0, locals := 0 }) s m args below meth c D 40 (cellC T q) q T A SF none H locs 18 ls [])  (x2 : Int32) (S : St) {H : Heap} {locs : List Loc} {ls : Array Slot} (hf : jSuppers_settle_b18 K18 x2 S = some SF) (hw : Xw D 40 (cellC T q) q T (ExC aK aV) A s S H locs) (hl : lv_has ls 3 [(0, .ref (q 9)), (1, .ref (q 13)), (2, .int x2)]) : XG p l e ({ frames := 0, cells := 0, slots := 0, locals := 0 }) s m args below meth c D 40 (cellC T q) q T A SF none H locs 18 ls [] := by
  unfold jSuppers_settle_b18 at hf
  obtain ⟨hx, hb, hr, hml, hown, hts, hlk, hA⟩ := id B
  refine lv_iload_n hx hb dX3_settle_18 rfl (lv_at hl 2 rfl) ?_
  refine lv_iconst (v := 5) hx hb dX3_settle_19 (by decide) ?_
  refine lv_icmp_ge (tgt := 45) hx hb dX3_settle_20 (by decide) (fun hc => ?_) (fun hc => ?_)
  · have hf := x_pos hc hf
    refine lv_aload_n hx hb dX3_settle_45 rfl (lv_at hl 0 rfl) ?_
    refine lv_dup hx hb dX3_settle_46 rfl ?_
    refine x_get B hw (Tb := TX3) inX3 9 (by decide) rfl rfl 3 (by decide) u138 (fun _ h => h) rfl dX3_settle_47 ?_
    refine lv_iconst (v := 1) hx hb dX3_settle_50 (by decide) ?_
    refine lv_iadd hx hb dX3_settle_51 ?_
    refine x_put B hw (Tb := TX3) inX3 tyX3 tyX3_ok nmX3 9 (by decide) rfl rfl 3 (by decide) u138 (fun _ h => h) rfl (ty := .int) (by decide +kernel) rfl rfl (Nat.le_of_ble_eq_true rfl) (S1 := upI S 9 3 ((S.1 9 3) + 1)) rfl upI_o (fun _ _ => rfl) dX3_settle_52 hf (fun S1 H locs hw hf => ?_)
    exact x_vret B hw hf dX3_settle_55
  · have hf := x_neg hc hf
    refine lv_aload_n hx hb dX3_settle_23 rfl (lv_at hl 0 rfl) ?_
    refine x_get B hw (Tb := TX3) inX3 9 (by decide) rfl rfl 0 (by decide) u133 (fun _ h => h) rfl dX3_settle_24 ?_
    refine lv_aload_n hx hb dX3_settle_27 rfl (lv_at hl 0 rfl) ?_
    refine x_get B hw (Tb := TX3) inX3 9 (by decide) rfl rfl 3 (by decide) u138 (fun _ h => h) rfl dX3_settle_28 ?_
    refine lv_iconst (v := 5) hx hb dX3_settle_31 (by decide) ?_
    refine lv_imul hx hb dX3_settle_32 ?_
    refine lv_iload_n hx hb dX3_settle_33 rfl (lv_at hl 2 rfl) ?_
    refine lv_iadd hx hb dX3_settle_34 ?_
    refine lv_aload_n hx hb dX3_settle_35 rfl (lv_at hl 1 rfl) ?_
    refine lv_iload_n hx hb dX3_settle_36 rfl (lv_at hl 2 rfl) ?_
    refine x_iald B hw 13 (by decide) rfl dX3_settle_37 hf (fun v2 hf => ?_)
    refine x_iast B hw 10 (by decide) (fun _ _ => rfl) dX3_settle_38 hf (fun S3 H locs hw hf => ?_)
    refine lv_iinc (v := x2 + 1) (lv' := [(2, .int (x2 + 1)), (0, .ref (q 9)), (1, .ref (q 13))]) hx hb dX3_settle_39 hl (k := 2) rfl xi_1 (by decide) rfl (fun ls hl => ?_)
    refine lv_goto (tgt := 18) hx hb dX3_settle_42 (by decide) ?_
    exact hK18 (x2 + 1) S3 _ _ _ hf hw (lv_sub hl [1, 2, 0] rfl)

theorem jSuppers_settle_h18_ok (B : XB p s m args meth c A cX3_settle 3 none RX3) {SF : St} : ∀ (n : Nat) (x2 : Int32) (S : St) (H : Heap) (locs : List Loc) (ls : Array Slot), jSuppers_settle_h18 n x2 S = some SF → Xw D 40 (cellC T q) q T (ExC aK aV) A s S H locs → lv_has ls 3 [(0, .ref (q 9)), (1, .ref (q 13)), (2, .int x2)] → XG p l e ({ frames := 0, cells := 0, slots := 0, locals := 0 }) s m args below meth c D 40 (cellC T q) q T A SF none H locs 18 ls [] := by
  intro n
  induction n with
  | zero =>
    intro x2 S H locs ls hf hw hl
    rw [jSuppers_settle_h18] at hf
    cases hf
  | succ n ih =>
    intro x2 S H locs ls hf hw hl
    rw [jSuppers_settle_h18] at hf
    exact jSuppers_settle_b18_ok B (jSuppers_settle_h18 n) ih x2 S hf hw hl

set_option maxHeartbeats 4000000 in
theorem jSuppers_settle_b0_ok (B : XB p s m args meth c A cX3_settle 3 none RX3) {SF : St}  (S : St) {H : Heap} {locs : List Loc} {ls : Array Slot} (hf : jSuppers_settle S = some SF) (hw : Xw D 40 (cellC T q) q T (ExC aK aV) A s S H locs) (hl : lv_has ls 3 [(0, .ref (q 9)), (1, .ref (q 13))]) : XG p l e ({ frames := 0, cells := 0, slots := 0, locals := 0 }) s m args below meth c D 40 (cellC T q) q T A SF none H locs 0 ls [] := by
  unfold jSuppers_settle at hf
  obtain ⟨hx, hb, hr, hml, hown, hts, hlk, hA⟩ := id B
  refine lv_aload_n hx hb dX3_settle_0 rfl (lv_at hl 0 rfl) ?_
  refine x_get B hw (Tb := TX3) inX3 9 (by decide) rfl rfl 3 (by decide) u138 (fun _ h => h) rfl dX3_settle_1 ?_
  refine lv_bipush (v := 6) hx hb dX3_settle_4 (by decide) ?_
  refine lv_icmp_ge (tgt := 15) hx hb dX3_settle_6 (by decide) (fun hc => ?_) (fun hc => ?_)
  · have hf := x_pos hc hf
    exact x_vret B hw hf dX3_settle_15
  · have hf := x_neg hc hf
    refine lv_aload_n hx hb dX3_settle_9 rfl (lv_at hl 1 rfl) ?_
    refine x_alen B hw 13 (by decide) 0 rfl rfl (v := 7) rfl dX3_settle_10 ?_
    refine lv_iconst (v := 5) hx hb dX3_settle_11 (by decide) ?_
    refine lv_icmp_ge (tgt := 16) hx hb dX3_settle_12 (by decide) (fun hc => ?_) (fun hc => ?_)
    · have hf := x_pos hc hf
      refine lv_iconst (v := 0) hx hb dX3_settle_16 (by decide) ?_
      refine lv_istore_n (lv' := [(2, .int 0), (0, .ref (q 9)), (1, .ref (q 13))]) hx hb dX3_settle_17 rfl hl (by decide) rfl (fun ls hl => ?_)
      exact jSuppers_settle_h18_ok B FU 0 S _ _ _ hf hw (lv_sub hl [1, 2, 0] rfl)
    · have hf := x_neg hc hf
      exact x_vret B hw hf dX3_settle_15

set_option maxHeartbeats 4000000 in
theorem jSuppers_settle_ok {S SF : St} (hf : jSuppers_settle S = some SF) : XMet l D 40 (cellC T q) q T (ExC aK aV) yX3_settle cX3_settle 3 none ({ frames := 0, cells := 0, slots := 0, locals := 0 }) [.ref (q 9), .ref (q 13)] S none SF := by
  refine x_enter (own := RX3) (by decide +kernel) rfl (Nat.le_of_ble_eq_true rfl) (fun p e s m below meth c A B ls hw hl0 => ?_)
  have hl : lv_has ls 3 [(0, .ref (q 9)), (1, .ref (q 13))] := hl0
  exact jSuppers_settle_b0_ok B S hf hw hl

set_option maxHeartbeats 4000000 in
theorem jTelling_draft_b0_ok (B : XB p s m args meth c A cX4_draft 2 none RX4) {SF : St}  (x1 : Int32) (S : St) {H : Heap} {locs : List Loc} {ls : Array Slot} (hf : jTelling_draft x1 S = some SF) (hw : Xw D 40 (cellC T q) q T (ExC aK aV) A s S H locs) (hl : lv_has ls 2 [(0, .ref (q 3)), (1, .int x1)]) : XG p l e ({ frames := 1, cells := 0, slots := 0, locals := 23 }) s m args below meth c D 40 (cellC T q) q T A SF none H locs 0 ls [] := by
  unfold jTelling_draft at hf
  obtain ⟨hx, hb, hr, hml, hown, hts, hlk, hA⟩ := id B
  refine lv_iload_n hx hb dX4_draft_0 rfl (lv_at hl 1 rfl) ?_
  refine lv_iconst (v := 4) hx hb dX4_draft_1 (by decide) ?_
  refine lv_icmp_ne (tgt := 19) hx hb dX4_draft_2 (by decide) (fun hc => ?_) (fun hc => ?_)
  · have hf := x_neg hc hf
    refine lv_iload_n hx hb dX4_draft_19 rfl (lv_at hl 1 rfl) ?_
    refine lv_iconst (v := 5) hx hb dX4_draft_20 (by decide) ?_
    refine lv_icmp_ne (tgt := 38) hx hb dX4_draft_21 (by decide) (fun hc => ?_) (fun hc => ?_)
    · have hf := x_neg hc hf
      refine lv_aload_n hx hb dX4_draft_38 rfl (lv_at hl 0 rfl) ?_
      refine x_get B hw (Tb := TX4) inX4 3 (by decide) rfl rfl 1 (by decide) u170 (fun _ h => h) rfl dX4_draft_39 ?_
      refine lv_aload_n hx hb dX4_draft_42 rfl (lv_at hl 0 rfl) ?_
      refine x_get B hw (Tb := TX4) inX4 3 (by decide) rfl rfl 2 (by decide) u172 (fun _ h => h) rfl dX4_draft_43 ?_
      refine lv_iconst (v := 0) hx hb dX4_draft_46 (by decide) ?_
      refine x_iald B hw 13 (by decide) rfl dX4_draft_47 hf (fun v1 hf => ?_)
      refine x_put B hw (Tb := TX3) inX3 tyX3 tyX3_ok nmX3 9 (by decide) rfl rfl 5 (by decide) u145 (fun _ h => h) rfl (ty := .int) (by decide +kernel) rfl rfl (Nat.le_of_ble_eq_true rfl) (S1 := upI S 9 5 v1) rfl upI_o (fun _ _ => rfl) dX4_draft_48 hf (fun S2 H locs hw hf => ?_)
      refine lv_aload_n hx hb dX4_draft_51 rfl (lv_at hl 0 rfl) ?_
      refine lv_iconst (v := 1) hx hb dX4_draft_52 (by decide) ?_
      refine x_put B hw (Tb := TX4) inX4 tyX4 tyX4_ok nmX4 3 (by decide) rfl rfl 3 (by decide) u173 (fun _ h => h) rfl (ty := .boolean) (by decide +kernel) rfl rfl (Nat.le_of_ble_eq_true rfl) (S1 := upI S2 3 3 1) rfl upI_o (fun _ _ => rfl) dX4_draft_53 hf (fun S3 H locs hw hf => ?_)
      exact x_vret B hw hf dX4_draft_56
    · have hf := x_pos hc hf
      refine lv_aload_n hx hb dX4_draft_24 rfl (lv_at hl 0 rfl) ?_
      refine x_get B hw (Tb := TX4) inX4 3 (by decide) rfl rfl 0 (by decide) u168 (fun _ h => h) rfl dX4_draft_25 ?_
      refine lv_aload_n hx hb dX4_draft_28 rfl (lv_at hl 0 rfl) ?_
      refine x_get B hw (Tb := TX4) inX4 3 (by decide) rfl rfl 2 (by decide) u172 (fun _ h => h) rfl dX4_draft_29 ?_
      obtain ⟨S4, hc, hf⟩ := x_bv_some hf
      refine x_callV B ExC_ok hw 4 (by decide) rfl rfl (As := [.ref (q 13)]) (rest := []) (st1 := []) (jMenu_list_ok hc) u381 u382 u383 u41 u384 hdX1_list rfl ⟨Nat.le_of_ble_eq_true rfl, Nat.le_of_ble_eq_true rfl⟩ ⟨rfl, rfl⟩ hl.1 (Nat.le_of_ble_eq_true rfl) dX4_draft_32 (fun H locs hw => ?_) rfl rfl
      refine lv_goto (tgt := 56) hx hb dX4_draft_35 (by decide) ?_
      exact x_vret B hw hf dX4_draft_56
  · have hf := x_pos hc hf
    refine lv_aload_n hx hb dX4_draft_5 rfl (lv_at hl 0 rfl) ?_
    refine x_get B hw (Tb := TX4) inX4 3 (by decide) rfl rfl 1 (by decide) u170 (fun _ h => h) rfl dX4_draft_6 ?_
    refine lv_aload_n hx hb dX4_draft_9 rfl (lv_at hl 0 rfl) ?_
    refine x_get B hw (Tb := TX4) inX4 3 (by decide) rfl rfl 2 (by decide) u172 (fun _ h => h) rfl dX4_draft_10 ?_
    obtain ⟨S5, hc, hf⟩ := x_bv_some hf
    refine x_callV B ExC_ok hw 9 (by decide) rfl rfl (As := [.ref (q 13)]) (rest := []) (st1 := []) (jSuppers_settle_ok hc) u377 u378 u379 u42 u380 hdX3_settle rfl ⟨Nat.le_of_ble_eq_true rfl, Nat.le_of_ble_eq_true rfl⟩ ⟨rfl, rfl⟩ hl.1 (Nat.le_of_ble_eq_true rfl) dX4_draft_13 (fun H locs hw => ?_) rfl rfl
    refine lv_goto (tgt := 56) hx hb dX4_draft_16 (by decide) ?_
    exact x_vret B hw hf dX4_draft_56

set_option maxHeartbeats 4000000 in
theorem jTelling_draft_ok {x1 : Int32} {S SF : St} (hf : jTelling_draft x1 S = some SF) : XMet l D 40 (cellC T q) q T (ExC aK aV) yX4_draft cX4_draft 2 none ({ frames := 1, cells := 0, slots := 0, locals := 23 }) [.ref (q 3), .int x1] S none SF := by
  refine x_enter (own := RX4) (by decide +kernel) rfl (Nat.le_of_ble_eq_true rfl) (fun p e s m below meth c A B ls hw hl0 => ?_)
  have hl : lv_has ls 2 [(0, .ref (q 3)), (1, .int x1)] := hl0
  exact jTelling_draft_b0_ok B x1 S hf hw hl

set_option maxHeartbeats 4000000 in
theorem jTelling_mostOf_b0_ok (B : XB p s m args meth c A cX4_mostOf 2 (some .int) RX4) {SF : St} {r : Int32}  (x0 : Int32) (x1 : Int32) (S : St) {H : Heap} {locs : List Loc} {ls : Array Slot} (hf : jTelling_mostOf x0 x1 S = some (r, SF)) (hw : Xw D 40 (cellC T q) q T (ExC aK aV) A s S H locs) (hl : lv_has ls 2 [(0, .int x0), (1, .int x1)]) : XG p l e ({ frames := 0, cells := 0, slots := 0, locals := 0 }) s m args below meth c D 40 (cellC T q) q T A SF (some (.int r)) H locs 0 ls [] := by
  unfold jTelling_mostOf at hf
  obtain ⟨hx, hb, hr, hml, hown, hts, hlk, hA⟩ := id B
  refine lv_iload_n hx hb dX4_mostOf_0 rfl (lv_at hl 0 rfl) ?_
  refine lv_bipush (v := 6) hx hb dX4_mostOf_1 (by decide) ?_
  refine lv_icmp_ne (tgt := 8) hx hb dX4_mostOf_3 (by decide) (fun hc => ?_) (fun hc => ?_)
  · have hf := x_neg hc hf
    refine lv_iload_n hx hb dX4_mostOf_8 rfl (lv_at hl 1 rfl) ?_
    refine lv_iconst (v := 5) hx hb dX4_mostOf_9 (by decide) ?_
    refine lv_icmp_ge (tgt := 16) hx hb dX4_mostOf_10 (by decide) (fun hc => ?_) (fun hc => ?_)
    · have hf := x_pos hc hf
      refine lv_iload_n hx hb dX4_mostOf_16 rfl (lv_at hl 1 rfl) ?_
      refine lv_iconst (v := 5) hx hb dX4_mostOf_17 (by decide) ?_
      refine lv_icmp_ne (tgt := 26) hx hb dX4_mostOf_18 (by decide) (fun hc => ?_) (fun hc => ?_)
      · have hf := x_neg hc hf
        refine lv_bipush (v := 7) hx hb dX4_mostOf_26 (by decide) ?_
        exact x_iret B hw hf dX4_mostOf_28
      · have hf := x_pos hc hf
        refine lv_bipush (v := 7) hx hb dX4_mostOf_21 (by decide) ?_
        refine lv_goto (tgt := 28) hx hb dX4_mostOf_23 (by decide) ?_
        exact x_iret B hw hf dX4_mostOf_28
    · have hf := x_neg hc hf
      refine lv_bipush (v := 9) hx hb dX4_mostOf_13 (by decide) ?_
      exact x_iret B hw hf dX4_mostOf_15
  · have hf := x_pos hc hf
    refine lv_iconst (v := 5) hx hb dX4_mostOf_6 (by decide) ?_
    exact x_iret B hw hf dX4_mostOf_7

set_option maxHeartbeats 4000000 in
theorem jTelling_mostOf_ok {x0 : Int32} {x1 : Int32} {S SF : St} {r : Int32} (hf : jTelling_mostOf x0 x1 S = some (r, SF)) : XMet l D 40 (cellC T q) q T (ExC aK aV) yX4_mostOf cX4_mostOf 2 (some .int) ({ frames := 0, cells := 0, slots := 0, locals := 0 }) [.int x0, .int x1] S (some (.int r)) SF := by
  refine x_enter (own := RX4) (by decide +kernel) rfl (Nat.le_of_ble_eq_true rfl) (fun p e s m below meth c A B ls hw hl0 => ?_)
  have hl : lv_has ls 2 [(0, .int x0), (1, .int x1)] := hl0
  exact jTelling_mostOf_b0_ok B x0 x1 S hf hw hl

set_option maxHeartbeats 4000000 in
theorem jTelling_readItem_b27_ok (B : XB p s m args meth c A cX4_readItem 5 (some .boolean) RX4) {SF : St} {r : Int32} (K27 : Int32 → Int32 → Int32 → St → Option (Int32 × St)) (hK27 : ∀ (x2 : Int32) (x3 : Int32) (x4 : Int32) (S : St) (H : Heap) (locs : List Loc) (ls : Array Slot), K27 x2 x3 x4 S = some (r, SF) → Xw D 40 (cellC T q) q T (ExC aK aV) A s S H locs → lv_has ls 5 [(0, .ref (q 3)), (1, .ref (q 1)), (2, .int x2), (3, .int x3), (4, .int x4)] → XG p l e ({ frames := 8, cells := 0, slots := 0, locals := 203 }) s m args below meth c D 40 (cellC T q) q T A SF (some (.int r)) H locs 27 ls [])  (x2 : Int32) (x3 : Int32) (x4 : Int32) (S : St) {H : Heap} {locs : List Loc} {ls : Array Slot} (hf : jTelling_readItem_b27 K27 x2 x3 x4 S = some (r, SF)) (hw : Xw D 40 (cellC T q) q T (ExC aK aV) A s S H locs) (hl : lv_has ls 5 [(0, .ref (q 3)), (1, .ref (q 1)), (2, .int x2), (3, .int x3), (4, .int x4)]) : XG p l e ({ frames := 8, cells := 0, slots := 0, locals := 203 }) s m args below meth c D 40 (cellC T q) q T A SF (some (.int r)) H locs 27 ls [] := by
  unfold jTelling_readItem_b27 at hf
  obtain ⟨hx, hb, hr, hml, hown, hts, hlk, hA⟩ := id B
  refine lv_iload hx hb dX4_readItem_27 (lv_at hl 4 rfl) ?_
  refine lv_iload_n hx hb dX4_readItem_29 rfl (lv_at hl 3 rfl) ?_
  refine lv_icmp_ge (tgt := 77) hx hb dX4_readItem_30 (by decide) (fun hc => ?_) (fun hc => ?_)
  · have hf := x_pos hc hf
    refine lv_aload_n hx hb dX4_readItem_77 rfl (lv_at hl 1 rfl) ?_
    refine x_get B hw (Tb := TX5) inX5 1 (by decide) rfl rfl 4 (by decide) u72 (fun _ h => h) rfl dX4_readItem_78 ?_
    refine lv_iconst (v := 3) hx hb dX4_readItem_81 (by decide) ?_
    refine lv_icmp_eq (tgt := 87) hx hb dX4_readItem_82 (by decide) (fun hc => ?_) (fun hc => ?_)
    · have hf := x_pos hc hf
      refine lv_aload_n hx hb dX4_readItem_87 rfl (lv_at hl 0 rfl) ?_
      refine lv_iload_n hx hb dX4_readItem_88 rfl (lv_at hl 2 rfl) ?_
      obtain ⟨S7, hc, hf⟩ := x_bv_some hf
      refine x_callV B ExC_ok hw 3 (by decide) rfl rfl (As := [.int x2]) (rest := []) (st1 := []) (jTelling_draft_ok hc) u373 u375 u5 u40 u376 hdX4_draft rfl ⟨Nat.le_of_ble_eq_true rfl, Nat.le_of_ble_eq_true rfl⟩ ⟨rfl, rfl⟩ hl.1 (Nat.le_of_ble_eq_true rfl) dX4_readItem_89 (fun H locs hw => ?_) rfl rfl
      refine lv_aload_n hx hb dX4_readItem_92 rfl (lv_at hl 1 rfl) ?_
      obtain ⟨S8, hc, hf⟩ := x_bv_some hf
      refine x_callV B ExC_ok hw 1 (by decide) rfl rfl (As := []) (rest := []) (st1 := []) (jText_step_ok hc) u366 u286 u287 u39 u288 hdX5_step rfl ⟨Nat.le_of_ble_eq_true rfl, Nat.le_of_ble_eq_true rfl⟩ ⟨rfl, rfl⟩ hl.1 (Nat.le_of_ble_eq_true rfl) dX4_readItem_93 (fun H locs hw => ?_) rfl rfl
      refine lv_iconst (v := 1) hx hb dX4_readItem_96 (by decide) ?_
      exact x_zret B hw hf dX4_readItem_97
    · have hf := x_neg hc hf
      refine lv_iconst (v := 0) hx hb dX4_readItem_85 (by decide) ?_
      exact x_zret B hw hf dX4_readItem_86
  · have hf := x_neg hc hf
    refine lv_aload_n hx hb dX4_readItem_33 rfl (lv_at hl 1 rfl) ?_
    refine x_get B hw (Tb := TX5) inX5 1 (by decide) rfl rfl 4 (by decide) u72 (fun _ h => h) rfl dX4_readItem_34 ?_
    refine lv_iconst (v := 2) hx hb dX4_readItem_37 (by decide) ?_
    refine lv_icmp_ne (tgt := 54) hx hb dX4_readItem_38 (by decide) (fun hc => ?_) (fun hc => ?_)
    · have hf := x_neg hc hf
      refine lv_iconst (v := 0) hx hb dX4_readItem_54 (by decide) ?_
      exact x_zret B hw hf dX4_readItem_55
    · have hf := x_pos hc hf
      refine lv_aload_n hx hb dX4_readItem_41 rfl (lv_at hl 1 rfl) ?_
      refine x_get B hw (Tb := TX5) inX5 1 (by decide) rfl rfl 5 (by decide) u74 (fun _ h => h) rfl dX4_readItem_42 ?_
      refine lv_iload_n hx hb dX4_readItem_45 rfl (lv_at hl 2 rfl) ?_
      refine lv_iload hx hb dX4_readItem_46 (lv_at hl 4 rfl) ?_
      obtain ⟨v10, S9, hc, hf⟩ := x_bd_some hf
      refine x_callS B ExC_ok hw (As := [.int x2, .int x4]) (rest := [.int (S.1 1 5)]) (st1 := [.int v10, .int (S.1 1 5)]) (jTelling_mostOf_ok hc) u370 u371 u40 u372 hdX4_mostOf rfl ⟨Nat.le_of_ble_eq_true rfl, Nat.le_of_ble_eq_true rfl⟩ ⟨rfl, rfl⟩ hl.1 (Nat.le_of_ble_eq_true rfl) dX4_readItem_48 (fun H locs hw => ?_) rfl rfl
      refine lv_icmp_le (tgt := 56) hx hb dX4_readItem_51 (by decide) (fun hc => ?_) (fun hc => ?_)
      · have hf := x_pos hc hf
        refine lv_aload_n hx hb dX4_readItem_56 rfl (lv_at hl 0 rfl) ?_
        refine x_get B hw (Tb := TX4) inX4 3 (by decide) rfl rfl 2 (by decide) u172 (fun _ h => h) rfl dX4_readItem_57 ?_
        refine lv_iload hx hb dX4_readItem_60 (lv_at hl 4 rfl) ?_
        refine lv_aload_n hx hb dX4_readItem_62 rfl (lv_at hl 1 rfl) ?_
        refine x_get B hw (Tb := TX5) inX5 1 (by decide) rfl rfl 5 (by decide) u74 (fun _ h => h) rfl dX4_readItem_63 ?_
        refine x_iast B hw 13 (by decide) (fun _ _ => rfl) dX4_readItem_66 hf (fun S11 H locs hw hf => ?_)
        refine lv_aload_n hx hb dX4_readItem_67 rfl (lv_at hl 1 rfl) ?_
        obtain ⟨S12, hc, hf⟩ := x_bv_some hf
        refine x_callV B ExC_ok hw 1 (by decide) rfl rfl (As := []) (rest := []) (st1 := []) (jText_step_ok hc) u366 u286 u287 u39 u288 hdX5_step rfl ⟨Nat.le_of_ble_eq_true rfl, Nat.le_of_ble_eq_true rfl⟩ ⟨rfl, rfl⟩ hl.1 (Nat.le_of_ble_eq_true rfl) dX4_readItem_68 (fun H locs hw => ?_) rfl rfl
        refine lv_iinc (v := x4 + 1) (lv' := [(4, .int (x4 + 1)), (0, .ref (q 3)), (1, .ref (q 1)), (2, .int x2), (3, .int x3)]) hx hb dX4_readItem_71 hl (k := 4) rfl xi_1 (by decide) rfl (fun ls hl => ?_)
        refine lv_goto (tgt := 27) hx hb dX4_readItem_74 (by decide) ?_
        exact hK27 x2 x3 (x4 + 1) S12 _ _ _ hf hw (lv_sub hl [1, 2, 3, 4, 0] rfl)
      · have hf := x_neg hc hf
        refine lv_iconst (v := 0) hx hb dX4_readItem_54 (by decide) ?_
        exact x_zret B hw hf dX4_readItem_55

theorem jTelling_readItem_h27_ok (B : XB p s m args meth c A cX4_readItem 5 (some .boolean) RX4) {SF : St} {r : Int32} : ∀ (n : Nat) (x2 : Int32) (x3 : Int32) (x4 : Int32) (S : St) (H : Heap) (locs : List Loc) (ls : Array Slot), jTelling_readItem_h27 n x2 x3 x4 S = some (r, SF) → Xw D 40 (cellC T q) q T (ExC aK aV) A s S H locs → lv_has ls 5 [(0, .ref (q 3)), (1, .ref (q 1)), (2, .int x2), (3, .int x3), (4, .int x4)] → XG p l e ({ frames := 8, cells := 0, slots := 0, locals := 203 }) s m args below meth c D 40 (cellC T q) q T A SF (some (.int r)) H locs 27 ls [] := by
  intro n
  induction n with
  | zero =>
    intro x2 x3 x4 S H locs ls hf hw hl
    rw [jTelling_readItem_h27] at hf
    cases hf
  | succ n ih =>
    intro x2 x3 x4 S H locs ls hf hw hl
    rw [jTelling_readItem_h27] at hf
    exact jTelling_readItem_b27_ok B (jTelling_readItem_h27 n) ih x2 x3 x4 S hf hw hl

set_option maxHeartbeats 4000000 in
theorem jTelling_readItem_b0_ok (B : XB p s m args meth c A cX4_readItem 5 (some .boolean) RX4) {SF : St} {r : Int32}  (S : St) {H : Heap} {locs : List Loc} {ls : Array Slot} (hf : jTelling_readItem S = some (r, SF)) (hw : Xw D 40 (cellC T q) q T (ExC aK aV) A s S H locs) (hl : lv_has ls 5 [(0, .ref (q 3)), (1, .ref (q 1))]) : XG p l e ({ frames := 8, cells := 0, slots := 0, locals := 203 }) s m args below meth c D 40 (cellC T q) q T A SF (some (.int r)) H locs 0 ls [] := by
  unfold jTelling_readItem at hf
  obtain ⟨hx, hb, hr, hml, hown, hts, hlk, hA⟩ := id B
  refine lv_aload_n hx hb dX4_readItem_0 rfl (lv_at hl 1 rfl) ?_
  refine x_get B hw (Tb := TX5) inX5 1 (by decide) rfl rfl 4 (by decide) u72 (fun _ h => h) rfl dX4_readItem_1 ?_
  refine x_leti hf (fun v1 hf => ?_)
  refine lv_istore_n (lv' := [(2, .int v1), (0, .ref (q 3)), (1, .ref (q 1))]) hx hb dX4_readItem_4 rfl hl (by decide) rfl (fun ls hl => ?_)
  refine lv_aload_n hx hb dX4_readItem_5 rfl (lv_at hl 1 rfl) ?_
  refine lv_iload_n hx hb dX4_readItem_6 rfl (lv_at hl 0 rfl) ?_
  obtain ⟨v3, S2, hc, hf⟩ := x_bd_some hf
  refine x_callV B ExC_ok hw 3 (by decide) rfl rfl (As := [.int v1]) (rest := []) (st1 := [.int v3]) (jTelling_mayBegin_ok hc) u362 u364 u4 u40 u365 hdX4_mayBegin rfl ⟨Nat.le_of_ble_eq_true rfl, Nat.le_of_ble_eq_true rfl⟩ ⟨rfl, rfl⟩ hl.1 (Nat.le_of_ble_eq_true rfl) dX4_readItem_7 (fun H locs hw => ?_) rfl rfl
  refine lv_if_ne (tgt := 15) hx hb dX4_readItem_10 (by decide) (fun hc => ?_) (fun hc => ?_)
  · have hf := x_neg hc hf
    refine lv_aload_n hx hb dX4_readItem_15 rfl (lv_at hl 2 rfl) ?_
    obtain ⟨S4, hc, hf⟩ := x_bv_some hf
    refine x_callV B ExC_ok hw 1 (by decide) rfl rfl (As := []) (rest := []) (st1 := []) (jText_step_ok hc) u366 u286 u287 u39 u288 hdX5_step rfl ⟨Nat.le_of_ble_eq_true rfl, Nat.le_of_ble_eq_true rfl⟩ ⟨rfl, rfl⟩ hl.1 (Nat.le_of_ble_eq_true rfl) dX4_readItem_16 (fun H locs hw => ?_) rfl rfl
    refine lv_iload_n hx hb dX4_readItem_19 rfl (lv_at hl 0 rfl) ?_
    obtain ⟨v6, S5, hc, hf⟩ := x_bd_some hf
    refine x_callS B ExC_ok hw (As := [.int v1]) (rest := []) (st1 := [.int v6]) (jTelling_numbersOf_ok hc) u367 u368 u40 u369 hdX4_numbersOf rfl ⟨Nat.le_of_ble_eq_true rfl, Nat.le_of_ble_eq_true rfl⟩ ⟨rfl, rfl⟩ hl.1 (Nat.le_of_ble_eq_true rfl) dX4_readItem_20 (fun H locs hw => ?_) rfl rfl
    refine lv_istore_n (lv' := [(3, .int v6), (2, .int v1), (0, .ref (q 3)), (1, .ref (q 1))]) hx hb dX4_readItem_23 rfl hl (by decide) rfl (fun ls hl => ?_)
    refine lv_iconst (v := 0) hx hb dX4_readItem_24 (by decide) ?_
    refine lv_istore (lv' := [(4, .int 0), (3, .int v6), (2, .int v1), (0, .ref (q 3)), (1, .ref (q 1))]) hx hb dX4_readItem_25 hl (by decide) rfl (fun ls hl => ?_)
    exact jTelling_readItem_h27_ok B FU v1 v6 0 S5 _ _ _ hf hw (lv_sub hl [3, 4, 2, 1, 0] rfl)
  · have hf := x_pos hc hf
    refine lv_iconst (v := 0) hx hb dX4_readItem_13 (by decide) ?_
    exact x_zret B hw hf dX4_readItem_14

set_option maxHeartbeats 4000000 in
theorem jTelling_readItem_ok {S SF : St} {r : Int32} (hf : jTelling_readItem S = some (r, SF)) : XMet l D 40 (cellC T q) q T (ExC aK aV) yX4_readItem cX4_readItem 5 (some .boolean) ({ frames := 8, cells := 0, slots := 0, locals := 203 }) [.ref (q 3), .ref (q 1)] S (some (.int r)) SF := by
  refine x_enter (own := RX4) (by decide +kernel) rfl (Nat.le_of_ble_eq_true rfl) (fun p e s m below meth c A B ls hw hl0 => ?_)
  have hl : lv_has ls 5 [(0, .ref (q 3)), (1, .ref (q 1))] := hl0
  exact jTelling_readItem_b0_ok B S hf hw hl

set_option maxHeartbeats 4000000 in
theorem jTelling_readAll_b43_ok (B : XB p s m args meth c A cX4_readAll 3 (some .int) RX4) {SF : St} {r : Int32} (K43 : Int32 → St → Option (Int32 × St)) (hK43 : ∀ (x2 : Int32) (S : St) (H : Heap) (locs : List Loc) (ls : Array Slot), K43 x2 S = some (r, SF) → Xw D 40 (cellC T q) q T (ExC aK aV) A s S H locs → lv_has ls 3 [(0, .ref (q 3)), (1, .ref (q 1)), (2, .int x2)] → XG p l e ({ frames := 9, cells := 0, slots := 0, locals := 227 }) s m args below meth c D 40 (cellC T q) q T A SF (some (.int r)) H locs 43 ls [])  (x2 : Int32) (S : St) {H : Heap} {locs : List Loc} {ls : Array Slot} (hf : jTelling_readAll_b43 K43 x2 S = some (r, SF)) (hw : Xw D 40 (cellC T q) q T (ExC aK aV) A s S H locs) (hl : lv_has ls 3 [(0, .ref (q 3)), (1, .ref (q 1)), (2, .int x2)]) : XG p l e ({ frames := 9, cells := 0, slots := 0, locals := 227 }) s m args below meth c D 40 (cellC T q) q T A SF (some (.int r)) H locs 43 ls [] := by
  unfold jTelling_readAll_b43 at hf
  obtain ⟨hx, hb, hr, hml, hown, hts, hlk, hA⟩ := id B
  refine lv_iload_n hx hb dX4_readAll_43 rfl (lv_at hl 2 rfl) ?_
  refine lv_sipush (v := 300) hx hb dX4_readAll_44 (by decide) ?_
  refine lv_icmp_gt (tgt := 75) hx hb dX4_readAll_47 (by decide) (fun hc => ?_) (fun hc => ?_)
  · have hf := x_pos hc hf
    refine lv_iconst (v := (-1)) hx hb dX4_readAll_75 (by decide) ?_
    exact x_iret B hw hf dX4_readAll_76
  · have hf := x_neg hc hf
    refine lv_aload_n hx hb dX4_readAll_50 rfl (lv_at hl 1 rfl) ?_
    refine x_get B hw (Tb := TX5) inX5 1 (by decide) rfl rfl 4 (by decide) u72 (fun _ h => h) rfl dX4_readAll_51 ?_
    refine lv_if_ne (tgt := 59) hx hb dX4_readAll_54 (by decide) (fun hc => ?_) (fun hc => ?_)
    · have hf := x_neg hc hf
      refine lv_aload_n hx hb dX4_readAll_59 rfl (lv_at hl 0 rfl) ?_
      refine lv_aload_n hx hb dX4_readAll_60 rfl (lv_at hl 1 rfl) ?_
      obtain ⟨v8, S7, hc, hf⟩ := x_bd_some hf
      refine x_callV B ExC_ok hw 3 (by decide) rfl rfl (As := [.ref (q 1)]) (rest := []) (st1 := [.int v8]) (jTelling_readItem_ok hc) u358 u360 u3 u40 u361 hdX4_readItem rfl ⟨Nat.le_of_ble_eq_true rfl, Nat.le_of_ble_eq_true rfl⟩ ⟨rfl, rfl⟩ hl.1 (Nat.le_of_ble_eq_true rfl) dX4_readAll_61 (fun H locs hw => ?_) rfl rfl
      refine lv_if_ne (tgt := 69) hx hb dX4_readAll_64 (by decide) (fun hc => ?_) (fun hc => ?_)
      · have hf := x_neg hc hf
        refine lv_iinc (v := x2 + 1) (lv' := [(2, .int (x2 + 1)), (0, .ref (q 3)), (1, .ref (q 1))]) hx hb dX4_readAll_69 hl (k := 2) rfl xi_1 (by decide) rfl (fun ls hl => ?_)
        refine lv_goto (tgt := 43) hx hb dX4_readAll_72 (by decide) ?_
        exact hK43 (x2 + 1) S7 _ _ _ hf hw (lv_sub hl [1, 2, 0] rfl)
      · have hf := x_pos hc hf
        refine lv_iconst (v := (-1)) hx hb dX4_readAll_67 (by decide) ?_
        exact x_iret B hw hf dX4_readAll_68
    · have hf := x_pos hc hf
      refine lv_iload_n hx hb dX4_readAll_57 rfl (lv_at hl 2 rfl) ?_
      exact x_iret B hw hf dX4_readAll_58

theorem jTelling_readAll_h43_ok (B : XB p s m args meth c A cX4_readAll 3 (some .int) RX4) {SF : St} {r : Int32} : ∀ (n : Nat) (x2 : Int32) (S : St) (H : Heap) (locs : List Loc) (ls : Array Slot), jTelling_readAll_h43 n x2 S = some (r, SF) → Xw D 40 (cellC T q) q T (ExC aK aV) A s S H locs → lv_has ls 3 [(0, .ref (q 3)), (1, .ref (q 1)), (2, .int x2)] → XG p l e ({ frames := 9, cells := 0, slots := 0, locals := 227 }) s m args below meth c D 40 (cellC T q) q T A SF (some (.int r)) H locs 43 ls [] := by
  intro n
  induction n with
  | zero =>
    intro x2 S H locs ls hf hw hl
    rw [jTelling_readAll_h43] at hf
    cases hf
  | succ n ih =>
    intro x2 S H locs ls hf hw hl
    rw [jTelling_readAll_h43] at hf
    exact jTelling_readAll_b43_ok B (jTelling_readAll_h43 n) ih x2 S hf hw hl

set_option maxHeartbeats 4000000 in
theorem jTelling_readAll_b0_ok (B : XB p s m args meth c A cX4_readAll 3 (some .int) RX4) {SF : St} {r : Int32}  (S : St) {H : Heap} {locs : List Loc} {ls : Array Slot} (hf : jTelling_readAll S = some (r, SF)) (hw : Xw D 40 (cellC T q) q T (ExC aK aV) A s S H locs) (hl : lv_has ls 3 [(0, .ref (q 3)), (1, .ref (q 1))]) : XG p l e ({ frames := 9, cells := 0, slots := 0, locals := 227 }) s m args below meth c D 40 (cellC T q) q T A SF (some (.int r)) H locs 0 ls [] := by
  unfold jTelling_readAll at hf
  obtain ⟨hx, hb, hr, hml, hown, hts, hlk, hA⟩ := id B
  refine lv_aload_n hx hb dX4_readAll_0 rfl (lv_at hl 0 rfl) ?_
  refine x_get B hw (Tb := TX4) inX4 3 (by decide) rfl rfl 0 (by decide) u168 (fun _ h => h) rfl dX4_readAll_1 ?_
  refine lv_iconst (v := 0) hx hb dX4_readAll_4 (by decide) ?_
  refine x_put B hw (Tb := TX1) inX1 tyX1 tyX1_ok nmX1 4 (by decide) rfl rfl 4 (by decide) u113 (fun _ h => h) rfl (ty := .int) (by decide +kernel) rfl rfl (Nat.le_of_ble_eq_true rfl) (S1 := upI S 4 4 0) rfl upI_o (fun _ _ => rfl) dX4_readAll_5 hf (fun S1 H locs hw hf => ?_)
  refine lv_aload_n hx hb dX4_readAll_8 rfl (lv_at hl 0 rfl) ?_
  refine x_get B hw (Tb := TX4) inX4 3 (by decide) rfl rfl 1 (by decide) u170 (fun _ h => h) rfl dX4_readAll_9 ?_
  refine lv_iconst (v := 0) hx hb dX4_readAll_12 (by decide) ?_
  refine x_put B hw (Tb := TX3) inX3 tyX3 tyX3_ok nmX3 9 (by decide) rfl rfl 3 (by decide) u139 (fun _ h => h) rfl (ty := .int) (by decide +kernel) rfl rfl (Nat.le_of_ble_eq_true rfl) (S1 := upI S1 9 3 0) rfl upI_o (fun _ _ => rfl) dX4_readAll_13 hf (fun S2 H locs hw hf => ?_)
  refine lv_aload_n hx hb dX4_readAll_16 rfl (lv_at hl 0 rfl) ?_
  refine x_get B hw (Tb := TX4) inX4 3 (by decide) rfl rfl 1 (by decide) u170 (fun _ h => h) rfl dX4_readAll_17 ?_
  refine lv_iconst (v := 0) hx hb dX4_readAll_20 (by decide) ?_
  refine x_put B hw (Tb := TX3) inX3 tyX3 tyX3_ok nmX3 9 (by decide) rfl rfl 4 (by decide) u142 (fun _ h => h) rfl (ty := .int) (by decide +kernel) rfl rfl (Nat.le_of_ble_eq_true rfl) (S1 := upI S2 9 4 0) rfl upI_o (fun _ _ => rfl) dX4_readAll_21 hf (fun S3 H locs hw hf => ?_)
  refine lv_aload_n hx hb dX4_readAll_24 rfl (lv_at hl 0 rfl) ?_
  refine x_get B hw (Tb := TX4) inX4 3 (by decide) rfl rfl 1 (by decide) u170 (fun _ h => h) rfl dX4_readAll_25 ?_
  refine lv_iconst (v := 0) hx hb dX4_readAll_28 (by decide) ?_
  refine x_put B hw (Tb := TX3) inX3 tyX3 tyX3_ok nmX3 9 (by decide) rfl rfl 5 (by decide) u145 (fun _ h => h) rfl (ty := .int) (by decide +kernel) rfl rfl (Nat.le_of_ble_eq_true rfl) (S1 := upI S3 9 5 0) rfl upI_o (fun _ _ => rfl) dX4_readAll_29 hf (fun S4 H locs hw hf => ?_)
  refine lv_aload_n hx hb dX4_readAll_32 rfl (lv_at hl 0 rfl) ?_
  refine lv_iconst (v := 0) hx hb dX4_readAll_33 (by decide) ?_
  refine x_put B hw (Tb := TX4) inX4 tyX4 tyX4_ok nmX4 3 (by decide) rfl rfl 3 (by decide) u173 (fun _ h => h) rfl (ty := .boolean) (by decide +kernel) rfl rfl (Nat.le_of_ble_eq_true rfl) (S1 := upI S4 3 3 0) rfl upI_o (fun _ _ => rfl) dX4_readAll_34 hf (fun S5 H locs hw hf => ?_)
  refine lv_aload_n hx hb dX4_readAll_37 rfl (lv_at hl 1 rfl) ?_
  obtain ⟨S6, hc, hf⟩ := x_bv_some hf
  refine x_callV B ExC_ok hw 1 (by decide) rfl rfl (As := []) (rest := []) (st1 := []) (jText_rewind_ok hc) u281 u282 u283 u39 u284 hdX5_rewind rfl ⟨Nat.le_of_ble_eq_true rfl, Nat.le_of_ble_eq_true rfl⟩ ⟨rfl, rfl⟩ hl.1 (Nat.le_of_ble_eq_true rfl) dX4_readAll_38 (fun H locs hw => ?_) rfl rfl
  refine lv_iconst (v := 0) hx hb dX4_readAll_41 (by decide) ?_
  refine lv_istore_n (lv' := [(2, .int 0), (0, .ref (q 3)), (1, .ref (q 1))]) hx hb dX4_readAll_42 rfl hl (by decide) rfl (fun ls hl => ?_)
  exact jTelling_readAll_h43_ok B FU 0 S6 _ _ _ hf hw (lv_sub hl [1, 2, 0] rfl)

set_option maxHeartbeats 4000000 in
theorem jTelling_readAll_ok {S SF : St} {r : Int32} (hf : jTelling_readAll S = some (r, SF)) : XMet l D 40 (cellC T q) q T (ExC aK aV) yX4_readAll cX4_readAll 3 (some .int) ({ frames := 9, cells := 0, slots := 0, locals := 227 }) [.ref (q 3), .ref (q 1)] S (some (.int r)) SF := by
  refine x_enter (own := RX4) (by decide +kernel) rfl (Nat.le_of_ble_eq_true rfl) (fun p e s m below meth c A B ls hw hl0 => ?_)
  have hl : lv_has ls 3 [(0, .ref (q 3)), (1, .ref (q 1))] := hl0
  exact jTelling_readAll_b0_ok B S hf hw hl

set_option maxHeartbeats 4000000 in
theorem jMenu_become_b36_ok (B : XB p s m args meth c A cX1_become 3 none RX1) {SF : St} (K36 : Int32 → St → Option (St)) (hK36 : ∀ (x2 : Int32) (S : St) (H : Heap) (locs : List Loc) (ls : Array Slot), K36 x2 S = some SF → Xw D 40 (cellC T q) q T (ExC aK aV) A s S H locs → lv_has ls 3 [(0, .ref (q 14)), (1, .ref (q 4)), (2, .int x2)] → XG p l e ({ frames := 0, cells := 0, slots := 0, locals := 0 }) s m args below meth c D 40 (cellC T q) q T A SF none H locs 36 ls [])  (x2 : Int32) (S : St) {H : Heap} {locs : List Loc} {ls : Array Slot} (hf : jMenu_become_b36 K36 x2 S = some SF) (hw : Xw D 40 (cellC T q) q T (ExC aK aV) A s S H locs) (hl : lv_has ls 3 [(0, .ref (q 14)), (1, .ref (q 4)), (2, .int x2)]) : XG p l e ({ frames := 0, cells := 0, slots := 0, locals := 0 }) s m args below meth c D 40 (cellC T q) q T A SF none H locs 36 ls [] := by
  unfold jMenu_become_b36 at hf
  obtain ⟨hx, hb, hr, hml, hown, hts, hlk, hA⟩ := id B
  refine lv_iload_n hx hb dX1_become_36 rfl (lv_at hl 2 rfl) ?_
  refine lv_bipush (v := 8) hx hb dX1_become_37 (by decide) ?_
  refine lv_icmp_ge (tgt := 84) hx hb dX1_become_39 (by decide) (fun hc => ?_) (fun hc => ?_)
  · have hf := x_pos hc hf
    exact x_vret B hw hf dX1_become_84
  · have hf := x_neg hc hf
    refine lv_aload_n hx hb dX1_become_42 rfl (lv_at hl 0 rfl) ?_
    refine x_get B hw (Tb := TX1) inX1 14 (by decide) rfl rfl 1 (by decide) u103 (fun _ h => h) rfl dX1_become_43 ?_
    refine lv_iload_n hx hb dX1_become_46 rfl (lv_at hl 2 rfl) ?_
    refine lv_aload_n hx hb dX1_become_47 rfl (lv_at hl 1 rfl) ?_
    refine x_get B hw (Tb := TX1) inX1 4 (by decide) rfl rfl 1 (by decide) u103 (fun _ h => h) rfl dX1_become_48 ?_
    refine lv_iload_n hx hb dX1_become_51 rfl (lv_at hl 2 rfl) ?_
    refine x_iald B hw 6 (by decide) rfl dX1_become_52 hf (fun v2 hf => ?_)
    refine x_iast B hw 16 (by decide) (fun _ _ => rfl) dX1_become_53 hf (fun S3 H locs hw hf => ?_)
    refine lv_aload_n hx hb dX1_become_54 rfl (lv_at hl 0 rfl) ?_
    refine x_get B hw (Tb := TX1) inX1 14 (by decide) rfl rfl 2 (by decide) u106 (fun _ h => h) rfl dX1_become_55 ?_
    refine lv_iload_n hx hb dX1_become_58 rfl (lv_at hl 2 rfl) ?_
    refine lv_aload_n hx hb dX1_become_59 rfl (lv_at hl 1 rfl) ?_
    refine x_get B hw (Tb := TX1) inX1 4 (by decide) rfl rfl 2 (by decide) u106 (fun _ h => h) rfl dX1_become_60 ?_
    refine lv_iload_n hx hb dX1_become_63 rfl (lv_at hl 2 rfl) ?_
    refine x_iald B hw 7 (by decide) rfl dX1_become_64 hf (fun v4 hf => ?_)
    refine x_iast B hw 17 (by decide) (fun _ _ => rfl) dX1_become_65 hf (fun S5 H locs hw hf => ?_)
    refine lv_aload_n hx hb dX1_become_66 rfl (lv_at hl 0 rfl) ?_
    refine x_get B hw (Tb := TX1) inX1 14 (by decide) rfl rfl 3 (by decide) u109 (fun _ h => h) rfl dX1_become_67 ?_
    refine lv_iload_n hx hb dX1_become_70 rfl (lv_at hl 2 rfl) ?_
    refine lv_aload_n hx hb dX1_become_71 rfl (lv_at hl 1 rfl) ?_
    refine x_get B hw (Tb := TX1) inX1 4 (by decide) rfl rfl 3 (by decide) u109 (fun _ h => h) rfl dX1_become_72 ?_
    refine lv_iload_n hx hb dX1_become_75 rfl (lv_at hl 2 rfl) ?_
    refine x_iald B hw 8 (by decide) rfl dX1_become_76 hf (fun v6 hf => ?_)
    refine x_iast B hw 18 (by decide) (fun _ _ => rfl) dX1_become_77 hf (fun S7 H locs hw hf => ?_)
    refine lv_iinc (v := x2 + 1) (lv' := [(2, .int (x2 + 1)), (0, .ref (q 14)), (1, .ref (q 4))]) hx hb dX1_become_78 hl (k := 2) rfl xi_1 (by decide) rfl (fun ls hl => ?_)
    refine lv_goto (tgt := 36) hx hb dX1_become_81 (by decide) ?_
    exact hK36 (x2 + 1) S7 _ _ _ hf hw (lv_sub hl [1, 2, 0] rfl)

theorem jMenu_become_h36_ok (B : XB p s m args meth c A cX1_become 3 none RX1) {SF : St} : ∀ (n : Nat) (x2 : Int32) (S : St) (H : Heap) (locs : List Loc) (ls : Array Slot), jMenu_become_h36 n x2 S = some SF → Xw D 40 (cellC T q) q T (ExC aK aV) A s S H locs → lv_has ls 3 [(0, .ref (q 14)), (1, .ref (q 4)), (2, .int x2)] → XG p l e ({ frames := 0, cells := 0, slots := 0, locals := 0 }) s m args below meth c D 40 (cellC T q) q T A SF none H locs 36 ls [] := by
  intro n
  induction n with
  | zero =>
    intro x2 S H locs ls hf hw hl
    rw [jMenu_become_h36] at hf
    cases hf
  | succ n ih =>
    intro x2 S H locs ls hf hw hl
    rw [jMenu_become_h36] at hf
    exact jMenu_become_b36_ok B (jMenu_become_h36 n) ih x2 S hf hw hl

set_option maxHeartbeats 4000000 in
theorem jMenu_become_b10_ok (B : XB p s m args meth c A cX1_become 3 none RX1) {SF : St} (K10 : Int32 → St → Option (St)) (hK10 : ∀ (x2 : Int32) (S : St) (H : Heap) (locs : List Loc) (ls : Array Slot), K10 x2 S = some SF → Xw D 40 (cellC T q) q T (ExC aK aV) A s S H locs → lv_has ls 3 [(0, .ref (q 14)), (1, .ref (q 4)), (2, .int x2)] → XG p l e ({ frames := 0, cells := 0, slots := 0, locals := 0 }) s m args below meth c D 40 (cellC T q) q T A SF none H locs 10 ls [])  (x2 : Int32) (S : St) {H : Heap} {locs : List Loc} {ls : Array Slot} (hf : jMenu_become_b10 K10 x2 S = some SF) (hw : Xw D 40 (cellC T q) q T (ExC aK aV) A s S H locs) (hl : lv_has ls 3 [(0, .ref (q 14)), (1, .ref (q 4)), (2, .int x2)]) : XG p l e ({ frames := 0, cells := 0, slots := 0, locals := 0 }) s m args below meth c D 40 (cellC T q) q T A SF none H locs 10 ls [] := by
  unfold jMenu_become_b10 at hf
  obtain ⟨hx, hb, hr, hml, hown, hts, hlk, hA⟩ := id B
  refine lv_iload_n hx hb dX1_become_10 rfl (lv_at hl 2 rfl) ?_
  refine lv_bipush (v := 40) hx hb dX1_become_11 (by decide) ?_
  refine lv_icmp_ge (tgt := 34) hx hb dX1_become_13 (by decide) (fun hc => ?_) (fun hc => ?_)
  · have hf := x_pos hc hf
    refine lv_iconst (v := 0) hx hb dX1_become_34 (by decide) ?_
    refine lv_istore_n (lv' := [(2, .int 0), (0, .ref (q 14)), (1, .ref (q 4))]) hx hb dX1_become_35 rfl hl (by decide) rfl (fun ls hl => ?_)
    exact jMenu_become_h36_ok B FU 0 S _ _ _ hf hw (lv_sub hl [1, 2, 0] rfl)
  · have hf := x_neg hc hf
    refine lv_aload_n hx hb dX1_become_16 rfl (lv_at hl 0 rfl) ?_
    refine x_get B hw (Tb := TX1) inX1 14 (by decide) rfl rfl 0 (by decide) u102 (fun _ h => h) rfl dX1_become_17 ?_
    refine lv_iload_n hx hb dX1_become_20 rfl (lv_at hl 2 rfl) ?_
    refine lv_aload_n hx hb dX1_become_21 rfl (lv_at hl 1 rfl) ?_
    refine x_get B hw (Tb := TX1) inX1 4 (by decide) rfl rfl 0 (by decide) u102 (fun _ h => h) rfl dX1_become_22 ?_
    refine lv_iload_n hx hb dX1_become_25 rfl (lv_at hl 2 rfl) ?_
    refine x_iald B hw 5 (by decide) rfl dX1_become_26 hf (fun v8 hf => ?_)
    refine x_iast B hw 15 (by decide) (fun _ _ => rfl) dX1_become_27 hf (fun S9 H locs hw hf => ?_)
    refine lv_iinc (v := x2 + 1) (lv' := [(2, .int (x2 + 1)), (0, .ref (q 14)), (1, .ref (q 4))]) hx hb dX1_become_28 hl (k := 2) rfl xi_1 (by decide) rfl (fun ls hl => ?_)
    refine lv_goto (tgt := 10) hx hb dX1_become_31 (by decide) ?_
    exact hK10 (x2 + 1) S9 _ _ _ hf hw (lv_sub hl [1, 2, 0] rfl)

theorem jMenu_become_h10_ok (B : XB p s m args meth c A cX1_become 3 none RX1) {SF : St} : ∀ (n : Nat) (x2 : Int32) (S : St) (H : Heap) (locs : List Loc) (ls : Array Slot), jMenu_become_h10 n x2 S = some SF → Xw D 40 (cellC T q) q T (ExC aK aV) A s S H locs → lv_has ls 3 [(0, .ref (q 14)), (1, .ref (q 4)), (2, .int x2)] → XG p l e ({ frames := 0, cells := 0, slots := 0, locals := 0 }) s m args below meth c D 40 (cellC T q) q T A SF none H locs 10 ls [] := by
  intro n
  induction n with
  | zero =>
    intro x2 S H locs ls hf hw hl
    rw [jMenu_become_h10] at hf
    cases hf
  | succ n ih =>
    intro x2 S H locs ls hf hw hl
    rw [jMenu_become_h10] at hf
    exact jMenu_become_b10_ok B (jMenu_become_h10 n) ih x2 S hf hw hl

set_option maxHeartbeats 4000000 in
theorem jMenu_become_b0_ok (B : XB p s m args meth c A cX1_become 3 none RX1) {SF : St}  (S : St) {H : Heap} {locs : List Loc} {ls : Array Slot} (hf : jMenu_become S = some SF) (hw : Xw D 40 (cellC T q) q T (ExC aK aV) A s S H locs) (hl : lv_has ls 3 [(0, .ref (q 14)), (1, .ref (q 4))]) : XG p l e ({ frames := 0, cells := 0, slots := 0, locals := 0 }) s m args below meth c D 40 (cellC T q) q T A SF none H locs 0 ls [] := by
  unfold jMenu_become at hf
  obtain ⟨hx, hb, hr, hml, hown, hts, hlk, hA⟩ := id B
  refine lv_aload_n hx hb dX1_become_0 rfl (lv_at hl 0 rfl) ?_
  refine lv_aload_n hx hb dX1_become_1 rfl (lv_at hl 1 rfl) ?_
  refine x_get B hw (Tb := TX1) inX1 4 (by decide) rfl rfl 4 (by decide) u112 (fun _ h => h) rfl dX1_become_2 ?_
  refine x_put B hw (Tb := TX1) inX1 tyX1 tyX1_ok nmX1 14 (by decide) rfl rfl 4 (by decide) u112 (fun _ h => h) rfl (ty := .int) (by decide +kernel) rfl rfl (Nat.le_of_ble_eq_true rfl) (S1 := upI S 14 4 (S.1 4 4)) rfl upI_o (fun _ _ => rfl) dX1_become_5 hf (fun S1 H locs hw hf => ?_)
  refine lv_iconst (v := 0) hx hb dX1_become_8 (by decide) ?_
  refine lv_istore_n (lv' := [(2, .int 0), (0, .ref (q 14)), (1, .ref (q 4))]) hx hb dX1_become_9 rfl hl (by decide) rfl (fun ls hl => ?_)
  exact jMenu_become_h10_ok B FU 0 S1 _ _ _ hf hw (lv_sub hl [1, 2, 0] rfl)

set_option maxHeartbeats 4000000 in
theorem jMenu_become_ok {S SF : St} (hf : jMenu_become S = some SF) : XMet l D 40 (cellC T q) q T (ExC aK aV) yX1_become cX1_become 3 none ({ frames := 0, cells := 0, slots := 0, locals := 0 }) [.ref (q 14), .ref (q 4)] S none SF := by
  refine x_enter (own := RX1) (by decide +kernel) rfl (Nat.le_of_ble_eq_true rfl) (fun p e s m below meth c A B ls hw hl0 => ?_)
  have hl : lv_has ls 3 [(0, .ref (q 14)), (1, .ref (q 4))] := hl0
  exact jMenu_become_b0_ok B S hf hw hl

set_option maxHeartbeats 4000000 in
theorem jSuppers_become_19_9_b60_ok (B : XB p s m args meth c A cX3_become 3 none RX3) {SF : St} (K60 : Int32 → St → Option (St)) (hK60 : ∀ (x2 : Int32) (S : St) (H : Heap) (locs : List Loc) (ls : Array Slot), K60 x2 S = some SF → Xw D 40 (cellC T q) q T (ExC aK aV) A s S H locs → lv_has ls 3 [(0, .ref (q 19)), (1, .ref (q 9)), (2, .int x2)] → XG p l e ({ frames := 0, cells := 0, slots := 0, locals := 0 }) s m args below meth c D 40 (cellC T q) q T A SF none H locs 60 ls [])  (x2 : Int32) (S : St) {H : Heap} {locs : List Loc} {ls : Array Slot} (hf : jSuppers_become_19_9_b60 K60 x2 S = some SF) (hw : Xw D 40 (cellC T q) q T (ExC aK aV) A s S H locs) (hl : lv_has ls 3 [(0, .ref (q 19)), (1, .ref (q 9)), (2, .int x2)]) : XG p l e ({ frames := 0, cells := 0, slots := 0, locals := 0 }) s m args below meth c D 40 (cellC T q) q T A SF none H locs 60 ls [] := by
  unfold jSuppers_become_19_9_b60 at hf
  obtain ⟨hx, hb, hr, hml, hown, hts, hlk, hA⟩ := id B
  refine lv_iload_n hx hb dX3_become_60 rfl (lv_at hl 2 rfl) ?_
  refine lv_bipush (v := 20) hx hb dX3_become_61 (by decide) ?_
  refine lv_icmp_ge (tgt := 96) hx hb dX3_become_63 (by decide) (fun hc => ?_) (fun hc => ?_)
  · have hf := x_pos hc hf
    exact x_vret B hw hf dX3_become_96
  · have hf := x_neg hc hf
    refine lv_aload_n hx hb dX3_become_66 rfl (lv_at hl 0 rfl) ?_
    refine x_get B hw (Tb := TX3) inX3 19 (by decide) rfl rfl 1 (by decide) u134 (fun _ h => h) rfl dX3_become_67 ?_
    refine lv_iload_n hx hb dX3_become_70 rfl (lv_at hl 2 rfl) ?_
    refine lv_aload_n hx hb dX3_become_71 rfl (lv_at hl 1 rfl) ?_
    refine x_get B hw (Tb := TX3) inX3 9 (by decide) rfl rfl 1 (by decide) u134 (fun _ h => h) rfl dX3_become_72 ?_
    refine lv_iload_n hx hb dX3_become_75 rfl (lv_at hl 2 rfl) ?_
    refine x_iald B hw 11 (by decide) rfl dX3_become_76 hf (fun v5 hf => ?_)
    refine x_iast B hw 21 (by decide) (fun _ _ => rfl) dX3_become_77 hf (fun S6 H locs hw hf => ?_)
    refine lv_aload_n hx hb dX3_become_78 rfl (lv_at hl 0 rfl) ?_
    refine x_get B hw (Tb := TX3) inX3 19 (by decide) rfl rfl 2 (by decide) u136 (fun _ h => h) rfl dX3_become_79 ?_
    refine lv_iload_n hx hb dX3_become_82 rfl (lv_at hl 2 rfl) ?_
    refine lv_aload_n hx hb dX3_become_83 rfl (lv_at hl 1 rfl) ?_
    refine x_get B hw (Tb := TX3) inX3 9 (by decide) rfl rfl 2 (by decide) u136 (fun _ h => h) rfl dX3_become_84 ?_
    refine lv_iload_n hx hb dX3_become_87 rfl (lv_at hl 2 rfl) ?_
    refine x_iald B hw 12 (by decide) rfl dX3_become_88 hf (fun v7 hf => ?_)
    refine x_iast B hw 22 (by decide) (fun _ _ => rfl) dX3_become_89 hf (fun S8 H locs hw hf => ?_)
    refine lv_iinc (v := x2 + 1) (lv' := [(2, .int (x2 + 1)), (0, .ref (q 19)), (1, .ref (q 9))]) hx hb dX3_become_90 hl (k := 2) rfl xi_1 (by decide) rfl (fun ls hl => ?_)
    refine lv_goto (tgt := 60) hx hb dX3_become_93 (by decide) ?_
    exact hK60 (x2 + 1) S8 _ _ _ hf hw (lv_sub hl [1, 2, 0] rfl)

theorem jSuppers_become_19_9_h60_ok (B : XB p s m args meth c A cX3_become 3 none RX3) {SF : St} : ∀ (n : Nat) (x2 : Int32) (S : St) (H : Heap) (locs : List Loc) (ls : Array Slot), jSuppers_become_19_9_h60 n x2 S = some SF → Xw D 40 (cellC T q) q T (ExC aK aV) A s S H locs → lv_has ls 3 [(0, .ref (q 19)), (1, .ref (q 9)), (2, .int x2)] → XG p l e ({ frames := 0, cells := 0, slots := 0, locals := 0 }) s m args below meth c D 40 (cellC T q) q T A SF none H locs 60 ls [] := by
  intro n
  induction n with
  | zero =>
    intro x2 S H locs ls hf hw hl
    rw [jSuppers_become_19_9_h60] at hf
    cases hf
  | succ n ih =>
    intro x2 S H locs ls hf hw hl
    rw [jSuppers_become_19_9_h60] at hf
    exact jSuppers_become_19_9_b60_ok B (jSuppers_become_19_9_h60 n) ih x2 S hf hw hl

set_option maxHeartbeats 4000000 in
theorem jSuppers_become_19_9_b34_ok (B : XB p s m args meth c A cX3_become 3 none RX3) {SF : St} (K34 : Int32 → St → Option (St)) (hK34 : ∀ (x2 : Int32) (S : St) (H : Heap) (locs : List Loc) (ls : Array Slot), K34 x2 S = some SF → Xw D 40 (cellC T q) q T (ExC aK aV) A s S H locs → lv_has ls 3 [(0, .ref (q 19)), (1, .ref (q 9)), (2, .int x2)] → XG p l e ({ frames := 0, cells := 0, slots := 0, locals := 0 }) s m args below meth c D 40 (cellC T q) q T A SF none H locs 34 ls [])  (x2 : Int32) (S : St) {H : Heap} {locs : List Loc} {ls : Array Slot} (hf : jSuppers_become_19_9_b34 K34 x2 S = some SF) (hw : Xw D 40 (cellC T q) q T (ExC aK aV) A s S H locs) (hl : lv_has ls 3 [(0, .ref (q 19)), (1, .ref (q 9)), (2, .int x2)]) : XG p l e ({ frames := 0, cells := 0, slots := 0, locals := 0 }) s m args below meth c D 40 (cellC T q) q T A SF none H locs 34 ls [] := by
  unfold jSuppers_become_19_9_b34 at hf
  obtain ⟨hx, hb, hr, hml, hown, hts, hlk, hA⟩ := id B
  refine lv_iload_n hx hb dX3_become_34 rfl (lv_at hl 2 rfl) ?_
  refine lv_bipush (v := 30) hx hb dX3_become_35 (by decide) ?_
  refine lv_icmp_ge (tgt := 58) hx hb dX3_become_37 (by decide) (fun hc => ?_) (fun hc => ?_)
  · have hf := x_pos hc hf
    refine lv_iconst (v := 0) hx hb dX3_become_58 (by decide) ?_
    refine lv_istore_n (lv' := [(2, .int 0), (0, .ref (q 19)), (1, .ref (q 9))]) hx hb dX3_become_59 rfl hl (by decide) rfl (fun ls hl => ?_)
    exact jSuppers_become_19_9_h60_ok B FU 0 S _ _ _ hf hw (lv_sub hl [1, 2, 0] rfl)
  · have hf := x_neg hc hf
    refine lv_aload_n hx hb dX3_become_40 rfl (lv_at hl 0 rfl) ?_
    refine x_get B hw (Tb := TX3) inX3 19 (by decide) rfl rfl 0 (by decide) u133 (fun _ h => h) rfl dX3_become_41 ?_
    refine lv_iload_n hx hb dX3_become_44 rfl (lv_at hl 2 rfl) ?_
    refine lv_aload_n hx hb dX3_become_45 rfl (lv_at hl 1 rfl) ?_
    refine x_get B hw (Tb := TX3) inX3 9 (by decide) rfl rfl 0 (by decide) u133 (fun _ h => h) rfl dX3_become_46 ?_
    refine lv_iload_n hx hb dX3_become_49 rfl (lv_at hl 2 rfl) ?_
    refine x_iald B hw 10 (by decide) rfl dX3_become_50 hf (fun v9 hf => ?_)
    refine x_iast B hw 20 (by decide) (fun _ _ => rfl) dX3_become_51 hf (fun S10 H locs hw hf => ?_)
    refine lv_iinc (v := x2 + 1) (lv' := [(2, .int (x2 + 1)), (0, .ref (q 19)), (1, .ref (q 9))]) hx hb dX3_become_52 hl (k := 2) rfl xi_1 (by decide) rfl (fun ls hl => ?_)
    refine lv_goto (tgt := 34) hx hb dX3_become_55 (by decide) ?_
    exact hK34 (x2 + 1) S10 _ _ _ hf hw (lv_sub hl [1, 2, 0] rfl)

theorem jSuppers_become_19_9_h34_ok (B : XB p s m args meth c A cX3_become 3 none RX3) {SF : St} : ∀ (n : Nat) (x2 : Int32) (S : St) (H : Heap) (locs : List Loc) (ls : Array Slot), jSuppers_become_19_9_h34 n x2 S = some SF → Xw D 40 (cellC T q) q T (ExC aK aV) A s S H locs → lv_has ls 3 [(0, .ref (q 19)), (1, .ref (q 9)), (2, .int x2)] → XG p l e ({ frames := 0, cells := 0, slots := 0, locals := 0 }) s m args below meth c D 40 (cellC T q) q T A SF none H locs 34 ls [] := by
  intro n
  induction n with
  | zero =>
    intro x2 S H locs ls hf hw hl
    rw [jSuppers_become_19_9_h34] at hf
    cases hf
  | succ n ih =>
    intro x2 S H locs ls hf hw hl
    rw [jSuppers_become_19_9_h34] at hf
    exact jSuppers_become_19_9_b34_ok B (jSuppers_become_19_9_h34 n) ih x2 S hf hw hl

set_option maxHeartbeats 4000000 in
theorem jSuppers_become_19_9_b0_ok (B : XB p s m args meth c A cX3_become 3 none RX3) {SF : St}  (S : St) {H : Heap} {locs : List Loc} {ls : Array Slot} (hf : jSuppers_become_19_9 S = some SF) (hw : Xw D 40 (cellC T q) q T (ExC aK aV) A s S H locs) (hl : lv_has ls 3 [(0, .ref (q 19)), (1, .ref (q 9))]) : XG p l e ({ frames := 0, cells := 0, slots := 0, locals := 0 }) s m args below meth c D 40 (cellC T q) q T A SF none H locs 0 ls [] := by
  unfold jSuppers_become_19_9 at hf
  obtain ⟨hx, hb, hr, hml, hown, hts, hlk, hA⟩ := id B
  refine lv_aload_n hx hb dX3_become_0 rfl (lv_at hl 0 rfl) ?_
  refine lv_aload_n hx hb dX3_become_1 rfl (lv_at hl 1 rfl) ?_
  refine x_get B hw (Tb := TX3) inX3 9 (by decide) rfl rfl 3 (by decide) u138 (fun _ h => h) rfl dX3_become_2 ?_
  refine x_put B hw (Tb := TX3) inX3 tyX3 tyX3_ok nmX3 19 (by decide) rfl rfl 3 (by decide) u138 (fun _ h => h) rfl (ty := .int) (by decide +kernel) rfl rfl (Nat.le_of_ble_eq_true rfl) (S1 := upI S 19 3 (S.1 9 3)) rfl upI_o (fun _ _ => rfl) dX3_become_5 hf (fun S1 H locs hw hf => ?_)
  refine lv_aload_n hx hb dX3_become_8 rfl (lv_at hl 0 rfl) ?_
  refine lv_aload_n hx hb dX3_become_9 rfl (lv_at hl 1 rfl) ?_
  refine x_get B hw (Tb := TX3) inX3 9 (by decide) rfl rfl 4 (by decide) u141 (fun _ h => h) rfl dX3_become_10 ?_
  refine x_put B hw (Tb := TX3) inX3 tyX3 tyX3_ok nmX3 19 (by decide) rfl rfl 4 (by decide) u141 (fun _ h => h) rfl (ty := .int) (by decide +kernel) rfl rfl (Nat.le_of_ble_eq_true rfl) (S1 := upI S1 19 4 (S1.1 9 4)) rfl upI_o (fun _ _ => rfl) dX3_become_13 hf (fun S2 H locs hw hf => ?_)
  refine lv_aload_n hx hb dX3_become_16 rfl (lv_at hl 0 rfl) ?_
  refine lv_aload_n hx hb dX3_become_17 rfl (lv_at hl 1 rfl) ?_
  refine x_get B hw (Tb := TX3) inX3 9 (by decide) rfl rfl 5 (by decide) u144 (fun _ h => h) rfl dX3_become_18 ?_
  refine x_put B hw (Tb := TX3) inX3 tyX3 tyX3_ok nmX3 19 (by decide) rfl rfl 5 (by decide) u144 (fun _ h => h) rfl (ty := .int) (by decide +kernel) rfl rfl (Nat.le_of_ble_eq_true rfl) (S1 := upI S2 19 5 (S2.1 9 5)) rfl upI_o (fun _ _ => rfl) dX3_become_21 hf (fun S3 H locs hw hf => ?_)
  refine lv_aload_n hx hb dX3_become_24 rfl (lv_at hl 0 rfl) ?_
  refine lv_aload_n hx hb dX3_become_25 rfl (lv_at hl 1 rfl) ?_
  refine x_get B hw (Tb := TX3) inX3 9 (by decide) rfl rfl 6 (by decide) u147 (fun _ h => h) rfl dX3_become_26 ?_
  refine x_put B hw (Tb := TX3) inX3 tyX3 tyX3_ok nmX3 19 (by decide) rfl rfl 6 (by decide) u147 (fun _ h => h) rfl (ty := .int) (by decide +kernel) rfl rfl (Nat.le_of_ble_eq_true rfl) (S1 := upI S3 19 6 (S3.1 9 6)) rfl upI_o (fun _ _ => rfl) dX3_become_29 hf (fun S4 H locs hw hf => ?_)
  refine lv_iconst (v := 0) hx hb dX3_become_32 (by decide) ?_
  refine lv_istore_n (lv' := [(2, .int 0), (0, .ref (q 19)), (1, .ref (q 9))]) hx hb dX3_become_33 rfl hl (by decide) rfl (fun ls hl => ?_)
  exact jSuppers_become_19_9_h34_ok B FU 0 S4 _ _ _ hf hw (lv_sub hl [1, 2, 0] rfl)

set_option maxHeartbeats 4000000 in
theorem jSuppers_become_19_9_ok {S SF : St} (hf : jSuppers_become_19_9 S = some SF) : XMet l D 40 (cellC T q) q T (ExC aK aV) yX3_become cX3_become 3 none ({ frames := 0, cells := 0, slots := 0, locals := 0 }) [.ref (q 19), .ref (q 9)] S none SF := by
  refine x_enter (own := RX3) (by decide +kernel) rfl (Nat.le_of_ble_eq_true rfl) (fun p e s m below meth c A B ls hw hl0 => ?_)
  have hl : lv_has ls 3 [(0, .ref (q 19)), (1, .ref (q 9))] := hl0
  exact jSuppers_become_19_9_b0_ok B S hf hw hl

set_option maxHeartbeats 4000000 in
theorem jSmoke_valley_b0_ok (B : XB p s m args meth c A cX6_valley 2 (some .int) RX6) {SF : St} {r : Int32}  (S : St) {H : Heap} {locs : List Loc} {ls : Array Slot} (hf : jSmoke_valley S = some (r, SF)) (hw : Xw D 40 (cellC T q) q T (ExC aK aV) A s S H locs) (hl : lv_has ls 2 [(0, .ref (q 0))]) : XG p l e ({ frames := 10, cells := 0, slots := 0, locals := 249 }) s m args below meth c D 40 (cellC T q) q T A SF (some (.int r)) H locs 0 ls [] := by
  unfold jSmoke_valley at hf
  obtain ⟨hx, hb, hr, hml, hown, hts, hlk, hA⟩ := id B
  refine lv_aload_n hx hb dX6_valley_0 rfl (lv_at hl 0 rfl) ?_
  refine x_get B hw (Tb := TX6) inX6 0 (by decide) rfl rfl 1 (by decide) u231 (fun _ h => h) rfl dX6_valley_1 ?_
  refine lv_aload_n hx hb dX6_valley_4 rfl (lv_at hl 0 rfl) ?_
  refine x_get B hw (Tb := TX6) inX6 0 (by decide) rfl rfl 0 (by decide) u230 (fun _ h => h) rfl dX6_valley_5 ?_
  obtain ⟨v2, S1, hc, hf⟩ := x_bd_some hf
  refine x_callV B ExC_ok hw 3 (by decide) rfl rfl (As := [.ref (q 1)]) (rest := []) (st1 := [.int v2]) (jTelling_readAll_ok hc) u277 u278 u279 u40 u280 hdX4_readAll rfl ⟨Nat.le_of_ble_eq_true rfl, Nat.le_of_ble_eq_true rfl⟩ ⟨rfl, rfl⟩ hl.1 (Nat.le_of_ble_eq_true rfl) dX6_valley_8 (fun H locs hw => ?_) rfl rfl
  refine lv_istore_n (lv' := [(1, .int v2), (0, .ref (q 0))]) hx hb dX6_valley_11 rfl hl (by decide) rfl (fun ls hl => ?_)
  refine lv_iload_n hx hb dX6_valley_12 rfl (lv_at hl 0 rfl) ?_
  refine lv_if_ge (tgt := 27) hx hb dX6_valley_13 (by decide) (fun hc => ?_) (fun hc => ?_)
  · have hf := x_pos hc hf
    refine lv_aload_n hx hb dX6_valley_27 rfl (lv_at hl 1 rfl) ?_
    refine x_get B hw (Tb := TX6) inX6 0 (by decide) rfl rfl 2 (by decide) u232 (fun _ h => h) rfl dX6_valley_28 ?_
    refine lv_aload_n hx hb dX6_valley_31 rfl (lv_at hl 1 rfl) ?_
    refine x_get B hw (Tb := TX6) inX6 0 (by decide) rfl rfl 1 (by decide) u231 (fun _ h => h) rfl dX6_valley_32 ?_
    refine x_get B hw (Tb := TX4) inX4 3 (by decide) rfl rfl 0 (by decide) u169 (fun _ h => h) rfl dX6_valley_35 ?_
    obtain ⟨S3, hc, hf⟩ := x_bv_some hf
    refine x_callV B ExC_ok hw 14 (by decide) rfl rfl (As := [.ref (q 4)]) (rest := []) (st1 := []) (jMenu_become_ok hc) u385 u386 u387 u41 u388 hdX1_become rfl ⟨Nat.le_of_ble_eq_true rfl, Nat.le_of_ble_eq_true rfl⟩ ⟨rfl, rfl⟩ hl.1 (Nat.le_of_ble_eq_true rfl) dX6_valley_38 (fun H locs hw => ?_) rfl rfl
    refine lv_aload_n hx hb dX6_valley_41 rfl (lv_at hl 1 rfl) ?_
    refine x_get B hw (Tb := TX6) inX6 0 (by decide) rfl rfl 1 (by decide) u231 (fun _ h => h) rfl dX6_valley_42 ?_
    refine x_get B hw (Tb := TX4) inX4 3 (by decide) rfl rfl 1 (by decide) u171 (fun _ h => h) rfl dX6_valley_45 ?_
    refine lv_aload_n hx hb dX6_valley_48 rfl (lv_at hl 1 rfl) ?_
    refine x_get B hw (Tb := TX6) inX6 0 (by decide) rfl rfl 3 (by decide) u233 (fun _ h => h) rfl dX6_valley_49 ?_
    refine x_get B hw (Tb := TX3) inX3 19 (by decide) rfl rfl 6 (by decide) u148 (fun _ h => h) rfl dX6_valley_52 ?_
    refine x_put B hw (Tb := TX3) inX3 tyX3 tyX3_ok nmX3 9 (by decide) rfl rfl 6 (by decide) u148 (fun _ h => h) rfl (ty := .int) (by decide +kernel) rfl rfl (Nat.le_of_ble_eq_true rfl) (S1 := upI S3 9 6 (S3.1 19 6)) rfl upI_o (fun _ _ => rfl) dX6_valley_55 hf (fun S4 H locs hw hf => ?_)
    refine lv_aload_n hx hb dX6_valley_58 rfl (lv_at hl 1 rfl) ?_
    refine x_get B hw (Tb := TX6) inX6 0 (by decide) rfl rfl 3 (by decide) u233 (fun _ h => h) rfl dX6_valley_59 ?_
    refine lv_aload_n hx hb dX6_valley_62 rfl (lv_at hl 1 rfl) ?_
    refine x_get B hw (Tb := TX6) inX6 0 (by decide) rfl rfl 1 (by decide) u231 (fun _ h => h) rfl dX6_valley_63 ?_
    refine x_get B hw (Tb := TX4) inX4 3 (by decide) rfl rfl 1 (by decide) u171 (fun _ h => h) rfl dX6_valley_66 ?_
    obtain ⟨S5, hc, hf⟩ := x_bv_some hf
    refine x_callV B ExC_ok hw 19 (by decide) rfl rfl (As := [.ref (q 9)]) (rest := []) (st1 := []) (jSuppers_become_19_9_ok hc) u389 u390 u391 u42 u392 hdX3_become rfl ⟨Nat.le_of_ble_eq_true rfl, Nat.le_of_ble_eq_true rfl⟩ ⟨rfl, rfl⟩ hl.1 (Nat.le_of_ble_eq_true rfl) dX6_valley_69 (fun H locs hw => ?_) rfl rfl
    refine lv_aload_n hx hb dX6_valley_72 rfl (lv_at hl 1 rfl) ?_
    refine x_get B hw (Tb := TX6) inX6 0 (by decide) rfl rfl 4 (by decide) u234 (fun _ h => h) rfl dX6_valley_73 ?_
    refine lv_iconst (v := 0) hx hb dX6_valley_76 (by decide) ?_
    refine x_put B hw (Tb := TX3) inX3 tyX3 tyX3_ok nmX3 23 (by decide) rfl rfl 7 (by decide) u150 (fun _ h => h) rfl (ty := .boolean) (by decide +kernel) rfl rfl (Nat.le_of_ble_eq_true rfl) (S1 := upI S5 23 7 0) rfl upI_o (fun _ _ => rfl) dX6_valley_77 hf (fun S6 H locs hw hf => ?_)
    refine lv_aload_n hx hb dX6_valley_80 rfl (lv_at hl 1 rfl) ?_
    refine x_get B hw (Tb := TX6) inX6 0 (by decide) rfl rfl 5 (by decide) u235 (fun _ h => h) rfl dX6_valley_81 ?_
    refine lv_iconst (v := 0) hx hb dX6_valley_84 (by decide) ?_
    refine x_put B hw (Tb := TX3) inX3 tyX3 tyX3_ok nmX3 27 (by decide) rfl rfl 7 (by decide) u150 (fun _ h => h) rfl (ty := .boolean) (by decide +kernel) rfl rfl (Nat.le_of_ble_eq_true rfl) (S1 := upI S6 27 7 0) rfl upI_o (fun _ _ => rfl) dX6_valley_85 hf (fun S7 H locs hw hf => ?_)
    refine lv_aload_n hx hb dX6_valley_88 rfl (lv_at hl 1 rfl) ?_
    refine x_get B hw (Tb := TX6) inX6 0 (by decide) rfl rfl 0 (by decide) u230 (fun _ h => h) rfl dX6_valley_89 ?_
    refine lv_iconst (v := 0) hx hb dX6_valley_92 (by decide) ?_
    refine x_put B hw (Tb := TX5) inX5 tyX5 tyX5_ok nmX5 1 (by decide) rfl rfl 1 (by decide) u68 (fun _ h => h) rfl (ty := .int) (by decide +kernel) rfl rfl (Nat.le_of_ble_eq_true rfl) (S1 := upI S7 1 1 0) rfl upI_o (fun _ _ => rfl) dX6_valley_93 hf (fun S8 H locs hw hf => ?_)
    refine lv_iload_n hx hb dX6_valley_96 rfl (lv_at hl 0 rfl) ?_
    exact x_iret B hw hf dX6_valley_97
  · have hf := x_neg hc hf
    refine lv_bipush (v := (-10)) hx hb dX6_valley_16 (by decide) ?_
    refine lv_aload_n hx hb dX6_valley_18 rfl (lv_at hl 1 rfl) ?_
    refine x_get B hw (Tb := TX6) inX6 0 (by decide) rfl rfl 0 (by decide) u230 (fun _ h => h) rfl dX6_valley_19 ?_
    refine x_get B hw (Tb := TX5) inX5 1 (by decide) rfl rfl 3 (by decide) u70 (fun _ h => h) rfl dX6_valley_22 ?_
    refine lv_isub hx hb dX6_valley_25 ?_
    exact x_iret B hw hf dX6_valley_26

set_option maxHeartbeats 4000000 in
theorem jSmoke_valley_ok {S SF : St} {r : Int32} (hf : jSmoke_valley S = some (r, SF)) : XMet l D 40 (cellC T q) q T (ExC aK aV) yX6_valley cX6_valley 2 (some .int) ({ frames := 10, cells := 0, slots := 0, locals := 249 }) [.ref (q 0)] S (some (.int r)) SF := by
  refine x_enter (own := RX6) (by decide +kernel) rfl (Nat.le_of_ble_eq_true rfl) (fun p e s m below meth c A B ls hw hl0 => ?_)
  have hl : lv_has ls 2 [(0, .ref (q 0))] := hl0
  exact jSmoke_valley_b0_ok B S hf hw hl

set_option maxHeartbeats 4000000 in
theorem jSuppers_hasHouse_b0_ok (B : XB p s m args meth c A cX3_hasHouse 2 (some .boolean) RX3) {SF : St} {r : Int32}  (x1 : Int32) (S : St) {H : Heap} {locs : List Loc} {ls : Array Slot} (hf : jSuppers_hasHouse x1 S = some (r, SF)) (hw : Xw D 40 (cellC T q) q T (ExC aK aV) A s S H locs) (hl : lv_has ls 2 [(0, .ref (q 19)), (1, .int x1)]) : XG p l e ({ frames := 0, cells := 0, slots := 0, locals := 0 }) s m args below meth c D 40 (cellC T q) q T A SF (some (.int r)) H locs 0 ls [] := by
  unfold jSuppers_hasHouse at hf
  obtain ⟨hx, hb, hr, hml, hown, hts, hlk, hA⟩ := id B
  refine lv_iload_n hx hb dX3_hasHouse_0 rfl (lv_at hl 1 rfl) ?_
  refine lv_if_lt (tgt := 16) hx hb dX3_hasHouse_1 (by decide) (fun hc => ?_) (fun hc => ?_)
  · have hf := x_pos hc hf
    refine lv_iconst (v := 0) hx hb dX3_hasHouse_16 (by decide) ?_
    exact x_zret B hw hf dX3_hasHouse_17
  · have hf := x_neg hc hf
    refine lv_iload_n hx hb dX3_hasHouse_4 rfl (lv_at hl 1 rfl) ?_
    refine lv_aload_n hx hb dX3_hasHouse_5 rfl (lv_at hl 0 rfl) ?_
    refine x_get B hw (Tb := TX3) inX3 19 (by decide) rfl rfl 3 (by decide) u138 (fun _ h => h) rfl dX3_hasHouse_6 ?_
    refine lv_icmp_ge (tgt := 16) hx hb dX3_hasHouse_9 (by decide) (fun hc => ?_) (fun hc => ?_)
    · have hf := x_pos hc hf
      refine lv_iconst (v := 0) hx hb dX3_hasHouse_16 (by decide) ?_
      exact x_zret B hw hf dX3_hasHouse_17
    · have hf := x_neg hc hf
      refine lv_iconst (v := 1) hx hb dX3_hasHouse_12 (by decide) ?_
      refine lv_goto (tgt := 17) hx hb dX3_hasHouse_13 (by decide) ?_
      exact x_zret B hw hf dX3_hasHouse_17

set_option maxHeartbeats 4000000 in
theorem jSuppers_hasHouse_ok {x1 : Int32} {S SF : St} {r : Int32} (hf : jSuppers_hasHouse x1 S = some (r, SF)) : XMet l D 40 (cellC T q) q T (ExC aK aV) yX3_hasHouse cX3_hasHouse 2 (some .boolean) ({ frames := 0, cells := 0, slots := 0, locals := 0 }) [.ref (q 19), .int x1] S (some (.int r)) SF := by
  refine x_enter (own := RX3) (by decide +kernel) rfl (Nat.le_of_ble_eq_true rfl) (fun p e s m below meth c A B ls hw hl0 => ?_)
  have hl : lv_has ls 2 [(0, .ref (q 19)), (1, .int x1)] := hl0
  exact jSuppers_hasHouse_b0_ok B x1 S hf hw hl

set_option maxHeartbeats 4000000 in
theorem jSuppers_stock_b0_ok (B : XB p s m args meth c A cX3_stock 3 (some .int) RX3) {SF : St} {r : Int32}  (x1 : Int32) (x2 : Int32) (S : St) {H : Heap} {locs : List Loc} {ls : Array Slot} (hf : jSuppers_stock x1 x2 S = some (r, SF)) (hw : Xw D 40 (cellC T q) q T (ExC aK aV) A s S H locs) (hl : lv_has ls 3 [(0, .ref (q 19)), (1, .int x1), (2, .int x2)]) : XG p l e ({ frames := 0, cells := 0, slots := 0, locals := 0 }) s m args below meth c D 40 (cellC T q) q T A SF (some (.int r)) H locs 0 ls [] := by
  unfold jSuppers_stock at hf
  obtain ⟨hx, hb, hr, hml, hown, hts, hlk, hA⟩ := id B
  refine lv_aload_n hx hb dX3_stock_0 rfl (lv_at hl 0 rfl) ?_
  refine x_get B hw (Tb := TX3) inX3 19 (by decide) rfl rfl 0 (by decide) u133 (fun _ h => h) rfl dX3_stock_1 ?_
  refine lv_iload_n hx hb dX3_stock_4 rfl (lv_at hl 1 rfl) ?_
  refine lv_iconst (v := 5) hx hb dX3_stock_5 (by decide) ?_
  refine lv_imul hx hb dX3_stock_6 ?_
  refine lv_iload_n hx hb dX3_stock_7 rfl (lv_at hl 2 rfl) ?_
  refine lv_iadd hx hb dX3_stock_8 ?_
  refine x_iald B hw 20 (by decide) rfl dX3_stock_9 hf (fun v1 hf => ?_)
  exact x_iret B hw hf dX3_stock_10

set_option maxHeartbeats 4000000 in
theorem jSuppers_stock_ok {x1 : Int32} {x2 : Int32} {S SF : St} {r : Int32} (hf : jSuppers_stock x1 x2 S = some (r, SF)) : XMet l D 40 (cellC T q) q T (ExC aK aV) yX3_stock cX3_stock 3 (some .int) ({ frames := 0, cells := 0, slots := 0, locals := 0 }) [.ref (q 19), .int x1, .int x2] S (some (.int r)) SF := by
  refine x_enter (own := RX3) (by decide +kernel) rfl (Nat.le_of_ble_eq_true rfl) (fun p e s m below meth c A B ls hw hl0 => ?_)
  have hl : lv_has ls 3 [(0, .ref (q 19)), (1, .int x1), (2, .int x2)] := hl0
  exact jSuppers_stock_b0_ok B x1 x2 S hf hw hl

set_option maxHeartbeats 4000000 in
theorem jSuppers_allStock_b4_ok (B : XB p s m args meth c A cX3_allStock 4 (some .int) RX3) {SF : St} {r : Int32} (K4 : Int32 → Int32 → Int32 → St → Option (Int32 × St)) (hK4 : ∀ (x1 : Int32) (x2 : Int32) (x3 : Int32) (S : St) (H : Heap) (locs : List Loc) (ls : Array Slot), K4 x1 x2 x3 S = some (r, SF) → Xw D 40 (cellC T q) q T (ExC aK aV) A s S H locs → lv_has ls 4 [(0, .ref (q 19)), (1, .int x1), (2, .int x2), (3, .int x3)] → XG p l e ({ frames := 1, cells := 0, slots := 0, locals := 22 }) s m args below meth c D 40 (cellC T q) q T A SF (some (.int r)) H locs 4 ls [])  (x1 : Int32) (x2 : Int32) (x3 : Int32) (S : St) {H : Heap} {locs : List Loc} {ls : Array Slot} (hf : jSuppers_allStock_b4 K4 x1 x2 x3 S = some (r, SF)) (hw : Xw D 40 (cellC T q) q T (ExC aK aV) A s S H locs) (hl : lv_has ls 4 [(0, .ref (q 19)), (1, .int x1), (2, .int x2), (3, .int x3)]) : XG p l e ({ frames := 1, cells := 0, slots := 0, locals := 22 }) s m args below meth c D 40 (cellC T q) q T A SF (some (.int r)) H locs 4 ls [] := by
  unfold jSuppers_allStock_b4 at hf
  obtain ⟨hx, hb, hr, hml, hown, hts, hlk, hA⟩ := id B
  refine lv_iload_n hx hb dX3_allStock_4 rfl (lv_at hl 3 rfl) ?_
  refine lv_iconst (v := 5) hx hb dX3_allStock_5 (by decide) ?_
  refine lv_icmp_ge (tgt := 24) hx hb dX3_allStock_6 (by decide) (fun hc => ?_) (fun hc => ?_)
  · have hf := x_pos hc hf
    refine lv_iload_n hx hb dX3_allStock_24 rfl (lv_at hl 2 rfl) ?_
    exact x_iret B hw hf dX3_allStock_25
  · have hf := x_neg hc hf
    refine lv_iload_n hx hb dX3_allStock_9 rfl (lv_at hl 2 rfl) ?_
    refine lv_aload_n hx hb dX3_allStock_10 rfl (lv_at hl 0 rfl) ?_
    refine lv_iload_n hx hb dX3_allStock_11 rfl (lv_at hl 1 rfl) ?_
    refine lv_iload_n hx hb dX3_allStock_12 rfl (lv_at hl 3 rfl) ?_
    obtain ⟨v2, S1, hc, hf⟩ := x_bd_some hf
    refine x_callV B ExC_ok hw 19 (by decide) rfl rfl (As := [.int x1, .int x3]) (rest := [.int x2]) (st1 := [.int v2, .int x2]) (jSuppers_stock_ok hc) u410 u403 u404 u42 u405 hdX3_stock rfl ⟨Nat.le_of_ble_eq_true rfl, Nat.le_of_ble_eq_true rfl⟩ ⟨rfl, rfl⟩ hl.1 (Nat.le_of_ble_eq_true rfl) dX3_allStock_13 (fun H locs hw => ?_) rfl rfl
    refine lv_iadd hx hb dX3_allStock_16 ?_
    refine x_leti hf (fun v3 hf => ?_)
    refine lv_istore_n (lv' := [(2, .int v3), (0, .ref (q 19)), (1, .int x1), (3, .int x3)]) hx hb dX3_allStock_17 rfl hl (by decide) rfl (fun ls hl => ?_)
    refine lv_iinc (v := x3 + 1) (lv' := [(3, .int (x3 + 1)), (2, .int v3), (0, .ref (q 19)), (1, .int x1)]) hx hb dX3_allStock_18 hl (k := 3) rfl xi_1 (by decide) rfl (fun ls hl => ?_)
    refine lv_goto (tgt := 4) hx hb dX3_allStock_21 (by decide) ?_
    exact hK4 x1 v3 (x3 + 1) S1 _ _ _ hf hw (lv_sub hl [2, 3, 1, 0] rfl)

theorem jSuppers_allStock_h4_ok (B : XB p s m args meth c A cX3_allStock 4 (some .int) RX3) {SF : St} {r : Int32} : ∀ (n : Nat) (x1 : Int32) (x2 : Int32) (x3 : Int32) (S : St) (H : Heap) (locs : List Loc) (ls : Array Slot), jSuppers_allStock_h4 n x1 x2 x3 S = some (r, SF) → Xw D 40 (cellC T q) q T (ExC aK aV) A s S H locs → lv_has ls 4 [(0, .ref (q 19)), (1, .int x1), (2, .int x2), (3, .int x3)] → XG p l e ({ frames := 1, cells := 0, slots := 0, locals := 22 }) s m args below meth c D 40 (cellC T q) q T A SF (some (.int r)) H locs 4 ls [] := by
  intro n
  induction n with
  | zero =>
    intro x1 x2 x3 S H locs ls hf hw hl
    rw [jSuppers_allStock_h4] at hf
    cases hf
  | succ n ih =>
    intro x1 x2 x3 S H locs ls hf hw hl
    rw [jSuppers_allStock_h4] at hf
    exact jSuppers_allStock_b4_ok B (jSuppers_allStock_h4 n) ih x1 x2 x3 S hf hw hl

set_option maxHeartbeats 4000000 in
theorem jSuppers_allStock_b0_ok (B : XB p s m args meth c A cX3_allStock 4 (some .int) RX3) {SF : St} {r : Int32}  (x1 : Int32) (S : St) {H : Heap} {locs : List Loc} {ls : Array Slot} (hf : jSuppers_allStock x1 S = some (r, SF)) (hw : Xw D 40 (cellC T q) q T (ExC aK aV) A s S H locs) (hl : lv_has ls 4 [(0, .ref (q 19)), (1, .int x1)]) : XG p l e ({ frames := 1, cells := 0, slots := 0, locals := 22 }) s m args below meth c D 40 (cellC T q) q T A SF (some (.int r)) H locs 0 ls [] := by
  unfold jSuppers_allStock at hf
  obtain ⟨hx, hb, hr, hml, hown, hts, hlk, hA⟩ := id B
  refine lv_iconst (v := 0) hx hb dX3_allStock_0 (by decide) ?_
  refine lv_istore_n (lv' := [(2, .int 0), (0, .ref (q 19)), (1, .int x1)]) hx hb dX3_allStock_1 rfl hl (by decide) rfl (fun ls hl => ?_)
  refine lv_iconst (v := 0) hx hb dX3_allStock_2 (by decide) ?_
  refine lv_istore_n (lv' := [(3, .int 0), (2, .int 0), (0, .ref (q 19)), (1, .int x1)]) hx hb dX3_allStock_3 rfl hl (by decide) rfl (fun ls hl => ?_)
  exact jSuppers_allStock_h4_ok B FU x1 0 0 S _ _ _ hf hw (lv_sub hl [2, 3, 1, 0] rfl)

set_option maxHeartbeats 4000000 in
theorem jSuppers_allStock_ok {x1 : Int32} {S SF : St} {r : Int32} (hf : jSuppers_allStock x1 S = some (r, SF)) : XMet l D 40 (cellC T q) q T (ExC aK aV) yX3_allStock cX3_allStock 4 (some .int) ({ frames := 1, cells := 0, slots := 0, locals := 22 }) [.ref (q 19), .int x1] S (some (.int r)) SF := by
  refine x_enter (own := RX3) (by decide +kernel) rfl (Nat.le_of_ble_eq_true rfl) (fun p e s m below meth c A B ls hw hl0 => ?_)
  have hl : lv_has ls 4 [(0, .ref (q 19)), (1, .int x1)] := hl0
  exact jSuppers_allStock_b0_ok B x1 S hf hw hl
end
