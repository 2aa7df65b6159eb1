section
variable {p : Program} {l : Launch} {e : Env} {s : State} {m : MethodId} {args : Array Value} {below : List Frame} {meth : Method} {c : Code} {D : va_G} {q aK aV : Nat → Nat} {T : Nat → ClassId} {A : Nat → Prop}
set_option maxHeartbeats 4000000 in
theorem jChain_begin_b23_ok (B : XB p s m args meth c A cX0_begin 3 none RX0) {SF : St} (K2 : Int32 → Int32 → St → Option (St)) (hK2 : ∀ (x1 : Int32) (x2 : Int32) (S : St) (H : Heap) (locs : List Loc) (ls : Array Slot), K2 x1 x2 S = some SF → Xw D 40 (cellC T q) q T (ExC aK aV) A s S H locs → lv_has ls 3 [(0, .ref (q 36)), (1, .int x1), (2, .int x2)] → XG p l e ({ frames := 0, cells := 0, slots := 0, locals := 0 }) s m args below meth c D 40 (cellC T q) q T A SF none H locs 2 ls [])  (x1 : Int32) (x2 : Int32) (t0 : Int64) (s1 : Int32) (S : St) {H : Heap} {locs : List Loc} {ls : Array Slot} (hf : jChain_begin_b23 K2 x1 x2 t0 s1 S = some SF) (hw : Xw D 40 (cellC T q) q T (ExC aK aV) A s S H locs) (hl : lv_has ls 3 [(0, .ref (q 36)), (1, .int x1), (2, .int x2)]) : XG p l e ({ frames := 0, cells := 0, slots := 0, locals := 0 }) s m args below meth c D 40 (cellC T q) q T A SF none H locs 23 ls [.long t0, .int s1, .ref (q 37)] := by
  unfold jChain_begin_b23 at hf
  obtain ⟨hx, hb, hr, hml, hown, hts, hlk, hA⟩ := id B
  refine x_last B hw 37 (by decide) (fun _ _ => rfl) dX0_begin_23 hf (fun S1 H locs hw hf => ?_)
  refine lv_iinc (v := x2 + 1) (lv' := [(2, .int (x2 + 1)), (0, .ref (q 36)), (1, .int x1)]) hx hb dX0_begin_24 hl (k := 2) rfl xi_1 (by decide) rfl (fun ls hl => ?_)
  refine lv_goto (tgt := 2) hx hb dX0_begin_27 (by decide) ?_
  exact hK2 x1 (x2 + 1) S1 _ _ _ hf hw (lv_sub hl [1, 2, 0] rfl)

set_option maxHeartbeats 4000000 in
theorem jChain_begin_b2_ok (B : XB p s m args meth c A cX0_begin 3 none RX0) {SF : St} (K2 : Int32 → Int32 → St → Option (St)) (hK2 : ∀ (x1 : Int32) (x2 : Int32) (S : St) (H : Heap) (locs : List Loc) (ls : Array Slot), K2 x1 x2 S = some SF → Xw D 40 (cellC T q) q T (ExC aK aV) A s S H locs → lv_has ls 3 [(0, .ref (q 36)), (1, .int x1), (2, .int x2)] → XG p l e ({ frames := 0, cells := 0, slots := 0, locals := 0 }) s m args below meth c D 40 (cellC T q) q T A SF none H locs 2 ls [])  (x1 : Int32) (x2 : Int32) (S : St) {H : Heap} {locs : List Loc} {ls : Array Slot} (hf : jChain_begin_b2 K2 x1 x2 S = some SF) (hw : Xw D 40 (cellC T q) q T (ExC aK aV) A s S H locs) (hl : lv_has ls 3 [(0, .ref (q 36)), (1, .int x1), (2, .int x2)]) : XG p l e ({ frames := 0, cells := 0, slots := 0, locals := 0 }) s m args below meth c D 40 (cellC T q) q T A SF none H locs 2 ls [] := by
  unfold jChain_begin_b2 at hf
  obtain ⟨hx, hb, hr, hml, hown, hts, hlk, hA⟩ := id B
  refine lv_iload_n hx hb dX0_begin_2 rfl (lv_at hl 2 rfl) ?_
  refine lv_bipush (v := 8) hx hb dX0_begin_3 (by decide) ?_
  refine lv_icmp_ge (tgt := 30) hx hb dX0_begin_5 (by decide) (fun hc => ?_) (fun hc => ?_)
  · have hf := x_pos hc hf
    exact x_vret B hw hf dX0_begin_30
  · have hf := x_neg hc hf
    refine lv_aload_n hx hb dX0_begin_8 rfl (lv_at hl 0 rfl) ?_
    refine x_get B hw (Tb := TX0) inX0 36 (by decide) rfl rfl 0 (by decide) u221 (fun _ h => h) rfl dX0_begin_9 ?_
    refine lv_iload_n hx hb dX0_begin_12 rfl (lv_at hl 2 rfl) ?_
    refine lv_iload_n hx hb dX0_begin_13 rfl (lv_at hl 2 rfl) ?_
    refine lv_iload_n hx hb dX0_begin_14 rfl (lv_at hl 1 rfl) ?_
    refine lv_icmp_ne (tgt := 22) hx hb dX0_begin_15 (by decide) (fun hc => ?_) (fun hc => ?_)
    · have hf := x_neg hc hf
      refine lv_lconst (v := 0) hx hb dX0_begin_22 (by decide) ?_
      exact jChain_begin_b23_ok B K2 hK2 x1 x2 0 x2 S hf hw (lv_sub hl [0, 1, 2] rfl)
    · have hf := x_pos hc hf
      refine lv_lconst (v := 1) hx hb dX0_begin_18 (by decide) ?_
      refine lv_goto (tgt := 23) hx hb dX0_begin_19 (by decide) ?_
      exact jChain_begin_b23_ok B K2 hK2 x1 x2 1 x2 S hf hw (lv_sub hl [0, 1, 2] rfl)

theorem jChain_begin_h2_ok (B : XB p s m args meth c A cX0_begin 3 none RX0) {SF : St} : ∀ (n : Nat) (x1 : Int32) (x2 : Int32) (S : St) (H : Heap) (locs : List Loc) (ls : Array Slot), jChain_begin_h2 n x1 x2 S = some SF → Xw D 40 (cellC T q) q T (ExC aK aV) A s S H locs → lv_has ls 3 [(0, .ref (q 36)), (1, .int x1), (2, .int x2)] → XG p l e ({ frames := 0, cells := 0, slots := 0, locals := 0 }) s m args below meth c D 40 (cellC T q) q T A SF none H locs 2 ls [] := by
  intro n
  induction n with
  | zero =>
    intro x1 x2 S H locs ls hf hw hl
    rw [jChain_begin_h2] at hf
    cases hf
  | succ n ih =>
    intro x1 x2 S H locs ls hf hw hl
    rw [jChain_begin_h2] at hf
    exact jChain_begin_b2_ok B (jChain_begin_h2 n) ih x1 x2 S hf hw hl

set_option maxHeartbeats 4000000 in
theorem jChain_begin_b0_ok (B : XB p s m args meth c A cX0_begin 3 none RX0) {SF : St}  (x1 : Int32) (S : St) {H : Heap} {locs : List Loc} {ls : Array Slot} (hf : jChain_begin x1 S = some SF) (hw : Xw D 40 (cellC T q) q T (ExC aK aV) A s S H locs) (hl : lv_has ls 3 [(0, .ref (q 36)), (1, .int x1)]) : XG p l e ({ frames := 0, cells := 0, slots := 0, locals := 0 }) s m args below meth c D 40 (cellC T q) q T A SF none H locs 0 ls [] := by
  unfold jChain_begin at hf
  obtain ⟨hx, hb, hr, hml, hown, hts, hlk, hA⟩ := id B
  refine lv_iconst (v := 0) hx hb dX0_begin_0 (by decide) ?_
  refine lv_istore_n (lv' := [(2, .int 0), (0, .ref (q 36)), (1, .int x1)]) hx hb dX0_begin_1 rfl hl (by decide) rfl (fun ls hl => ?_)
  exact jChain_begin_h2_ok B FU x1 0 S _ _ _ hf hw (lv_sub hl [1, 2, 0] rfl)

set_option maxHeartbeats 4000000 in
theorem jChain_begin_ok {x1 : Int32} {S SF : St} (hf : jChain_begin x1 S = some SF) : XMet l D 40 (cellC T q) q T (ExC aK aV) yX0_begin cX0_begin 3 none ({ frames := 0, cells := 0, slots := 0, locals := 0 }) [.ref (q 36), .int x1] S none SF := by
  refine x_enter (own := RX0) (by decide +kernel) rfl (Nat.le_of_ble_eq_true rfl) (fun p e s m below meth c A B ls hw hl0 => ?_)
  have hl : lv_has ls 3 [(0, .ref (q 36)), (1, .int x1)] := hl0
  exact jChain_begin_b0_ok B x1 S hf hw hl

set_option maxHeartbeats 4000000 in
theorem jSmoke_leastTerms_b44_ok (B : XB p s m args meth c A cX6_leastTerms 12 (some .long) RX6) {SF : St} {r : Int64}  (y0 : Int64) (y2 : Int64) (x4 : Int32) (y5 : Int64) (S : St) {H : Heap} {locs : List Loc} {ls : Array Slot} (hf : jSmoke_leastTerms_b44 y0 y2 x4 y5 S = some (r, SF)) (hw : Xw D 40 (cellC T q) q T (ExC aK aV) A s S H locs) (hl : lv_has ls 12 [(0, .long y0), (2, .long y2), (4, .int x4), (5, .long y5)]) : XG p l e ({ frames := 0, cells := 0, slots := 0, locals := 0 }) s m args below meth c D 40 (cellC T q) q T A SF (some (.long r)) H locs 44 ls [] := by
  unfold jSmoke_leastTerms_b44 at hf
  obtain ⟨hx, hb, hr, hml, hown, hts, hlk, hA⟩ := id B
  refine lv_lload hx hb dX6_leastTerms_44 (lv_at hl 3 rfl) ?_
  refine lv_lconst (v := 0) hx hb dX6_leastTerms_46 (by decide) ?_
  refine W.lcmp hx hb dX6_leastTerms_47 ?_
  refine lv_if_ne (tgt := 55) hx hb dX6_leastTerms_48 (by decide) (fun hc => ?_) (fun hc => ?_)
  · have hf := x_neg hc hf
    refine lv_iload hx hb dX6_leastTerms_55 (lv_at hl 2 rfl) ?_
    refine lv_if_ne (tgt := 67) hx hb dX6_leastTerms_57 (by decide) (fun hc => ?_) (fun hc => ?_)
    · have hf := x_neg hc hf
      refine lv_lload_n hx hb dX6_leastTerms_67 rfl (lv_at hl 1 rfl) ?_
      refine lv_lload hx hb dX6_leastTerms_68 (lv_at hl 3 rfl) ?_
      obtain ⟨hne, hf⟩ := x_ng hf
      refine lv_ldiv hx hb dX6_leastTerms_70 hne ?_
      exact x_lret B hw hf dX6_leastTerms_71
    · have hf := x_pos hc hf
      refine lv_lload_n hx hb dX6_leastTerms_60 rfl (lv_at hl 0 rfl) ?_
      refine lv_lload hx hb dX6_leastTerms_61 (lv_at hl 3 rfl) ?_
      obtain ⟨hne, hf⟩ := x_ng hf
      refine lv_ldiv hx hb dX6_leastTerms_63 hne ?_
      refine lv_goto (tgt := 71) hx hb dX6_leastTerms_64 (by decide) ?_
      exact x_lret B hw hf dX6_leastTerms_71
  · have hf := x_pos hc hf
    refine lv_ldc2 (v := (-1)) hx hb hown (hts _ u543) dX6_leastTerms_51 ?_
    exact x_lret B hw hf dX6_leastTerms_54

set_option maxHeartbeats 4000000 in
theorem jSmoke_leastTerms_b9_ok (B : XB p s m args meth c A cX6_leastTerms 12 (some .long) RX6) {SF : St} {r : Int64} (K9 : Int64 → Int64 → Int32 → Int64 → Int64 → Int32 → St → Option (Int64 × St)) (hK9 : ∀ (y0 : Int64) (y2 : Int64) (x4 : Int32) (y5 : Int64) (y7 : Int64) (x9 : Int32) (S : St) (H : Heap) (locs : List Loc) (ls : Array Slot), K9 y0 y2 x4 y5 y7 x9 S = some (r, SF) → Xw D 40 (cellC T q) q T (ExC aK aV) A s S H locs → lv_has ls 12 [(0, .long y0), (2, .long y2), (4, .int x4), (5, .long y5), (7, .long y7), (9, .int x9)] → XG p l e ({ frames := 0, cells := 0, slots := 0, locals := 0 }) s m args below meth c D 40 (cellC T q) q T A SF (some (.long r)) H locs 9 ls [])  (y0 : Int64) (y2 : Int64) (x4 : Int32) (y5 : Int64) (y7 : Int64) (x9 : Int32) (S : St) {H : Heap} {locs : List Loc} {ls : Array Slot} (hf : jSmoke_leastTerms_b9 K9 y0 y2 x4 y5 y7 x9 S = some (r, SF)) (hw : Xw D 40 (cellC T q) q T (ExC aK aV) A s S H locs) (hl : lv_has ls 12 [(0, .long y0), (2, .long y2), (4, .int x4), (5, .long y5), (7, .long y7), (9, .int x9)]) : XG p l e ({ frames := 0, cells := 0, slots := 0, locals := 0 }) s m args below meth c D 40 (cellC T q) q T A SF (some (.long r)) H locs 9 ls [] := by
  unfold jSmoke_leastTerms_b9 at hf
  obtain ⟨hx, hb, hr, hml, hown, hts, hlk, hA⟩ := id B
  refine lv_iload hx hb dX6_leastTerms_9 (lv_at hl 5 rfl) ?_
  refine lv_bipush (v := 100) hx hb dX6_leastTerms_11 (by decide) ?_
  refine lv_icmp_ge (tgt := 44) hx hb dX6_leastTerms_13 (by decide) (fun hc => ?_) (fun hc => ?_)
  · have hf := x_pos hc hf
    exact jSmoke_leastTerms_b44_ok B y0 y2 x4 y5 S hf hw (lv_sub hl [0, 1, 2, 3] rfl)
  · have hf := x_neg hc hf
    refine lv_lload hx hb dX6_leastTerms_16 (lv_at hl 4 rfl) ?_
    refine lv_lconst (v := 0) hx hb dX6_leastTerms_18 (by decide) ?_
    refine W.lcmp hx hb dX6_leastTerms_19 ?_
    refine lv_if_eq (tgt := 44) hx hb dX6_leastTerms_20 (by decide) (fun hc => ?_) (fun hc => ?_)
    · have hf := x_pos hc hf
      exact jSmoke_leastTerms_b44_ok B y0 y2 x4 y5 S hf hw (lv_sub hl [0, 1, 2, 3] rfl)
    · have hf := x_neg hc hf
      refine lv_lload hx hb dX6_leastTerms_23 (lv_at hl 3 rfl) ?_
      refine lv_lload hx hb dX6_leastTerms_25 (lv_at hl 4 rfl) ?_
      obtain ⟨hne, hf⟩ := x_ng hf
      refine lv_lrem hx hb dX6_leastTerms_27 hne ?_
      refine x_letl hf (fun v1 hf => ?_)
      refine lv_lstore (lv' := [(10, .long v1), (0, .long y0), (2, .long y2), (4, .int x4), (5, .long y5), (7, .long y7), (9, .int x9)]) hx hb dX6_leastTerms_28 hl (by decide) rfl (fun ls hl => ?_)
      refine lv_lload hx hb dX6_leastTerms_30 (lv_at hl 5 rfl) ?_
      refine lv_lstore (lv' := [(5, .long y7), (10, .long v1), (0, .long y0), (2, .long y2), (4, .int x4), (7, .long y7), (9, .int x9)]) hx hb dX6_leastTerms_32 hl (by decide) rfl (fun ls hl => ?_)
      refine lv_lload hx hb dX6_leastTerms_34 (lv_at hl 1 rfl) ?_
      refine lv_lstore (lv' := [(7, .long v1), (5, .long y7), (10, .long v1), (0, .long y0), (2, .long y2), (4, .int x4), (9, .int x9)]) hx hb dX6_leastTerms_36 hl (by decide) rfl (fun ls hl => ?_)
      refine lv_iinc (v := x9 + 1) (lv' := [(9, .int (x9 + 1)), (7, .long v1), (5, .long y7), (10, .long v1), (0, .long y0), (2, .long y2), (4, .int x4)]) hx hb dX6_leastTerms_38 hl (k := 6) rfl xi_1 (by decide) rfl (fun ls hl => ?_)
      refine lv_goto (tgt := 9) hx hb dX6_leastTerms_41 (by decide) ?_
      exact hK9 y0 y2 x4 y7 v1 (x9 + 1) S _ _ _ hf hw (lv_sub hl [4, 5, 6, 2, 1, 0] rfl)

theorem jSmoke_leastTerms_h9_ok (B : XB p s m args meth c A cX6_leastTerms 12 (some .long) RX6) {SF : St} {r : Int64} : ∀ (n : Nat) (y0 : Int64) (y2 : Int64) (x4 : Int32) (y5 : Int64) (y7 : Int64) (x9 : Int32) (S : St) (H : Heap) (locs : List Loc) (ls : Array Slot), jSmoke_leastTerms_h9 n y0 y2 x4 y5 y7 x9 S = some (r, SF) → Xw D 40 (cellC T q) q T (ExC aK aV) A s S H locs → lv_has ls 12 [(0, .long y0), (2, .long y2), (4, .int x4), (5, .long y5), (7, .long y7), (9, .int x9)] → XG p l e ({ frames := 0, cells := 0, slots := 0, locals := 0 }) s m args below meth c D 40 (cellC T q) q T A SF (some (.long r)) H locs 9 ls [] := by
  intro n
  induction n with
  | zero =>
    intro y0 y2 x4 y5 y7 x9 S H locs ls hf hw hl
    rw [jSmoke_leastTerms_h9] at hf
    cases hf
  | succ n ih =>
    intro y0 y2 x4 y5 y7 x9 S H locs ls hf hw hl
    rw [jSmoke_leastTerms_h9] at hf
    exact jSmoke_leastTerms_b9_ok B (jSmoke_leastTerms_h9 n) ih y0 y2 x4 y5 y7 x9 S hf hw hl

set_option maxHeartbeats 4000000 in
theorem jSmoke_leastTerms_b0_ok (B : XB p s m args meth c A cX6_leastTerms 12 (some .long) RX6) {SF : St} {r : Int64}  (y0 : Int64) (y2 : Int64) (x4 : Int32) (S : St) {H : Heap} {locs : List Loc} {ls : Array Slot} (hf : jSmoke_leastTerms y0 y2 x4 S = some (r, SF)) (hw : Xw D 40 (cellC T q) q T (ExC aK aV) A s S H locs) (hl : lv_has ls 12 [(0, .long y0), (2, .long y2), (4, .int x4)]) : XG p l e ({ frames := 0, cells := 0, slots := 0, locals := 0 }) s m args below meth c D 40 (cellC T q) q T A SF (some (.long r)) H locs 0 ls [] := by
  unfold jSmoke_leastTerms at hf
  obtain ⟨hx, hb, hr, hml, hown, hts, hlk, hA⟩ := id B
  refine lv_lload_n hx hb dX6_leastTerms_0 rfl (lv_at hl 0 rfl) ?_
  refine lv_lstore (lv' := [(5, .long y0), (0, .long y0), (2, .long y2), (4, .int x4)]) hx hb dX6_leastTerms_1 hl (by decide) rfl (fun ls hl => ?_)
  refine lv_lload_n hx hb dX6_leastTerms_3 rfl (lv_at hl 2 rfl) ?_
  refine lv_lstore (lv' := [(7, .long y2), (5, .long y0), (0, .long y0), (2, .long y2), (4, .int x4)]) hx hb dX6_leastTerms_4 hl (by decide) rfl (fun ls hl => ?_)
  refine lv_iconst (v := 0) hx hb dX6_leastTerms_6 (by decide) ?_
  refine lv_istore (lv' := [(9, .int 0), (7, .long y2), (5, .long y0), (0, .long y0), (2, .long y2), (4, .int x4)]) hx hb dX6_leastTerms_7 hl (by decide) rfl (fun ls hl => ?_)
  exact jSmoke_leastTerms_h9_ok B FU y0 y2 x4 y0 y2 0 S _ _ _ hf hw (lv_sub hl [3, 4, 5, 2, 1, 0] rfl)

set_option maxHeartbeats 4000000 in
theorem jSmoke_leastTerms_ok {y0 : Int64} {y2 : Int64} {x4 : Int32} {S SF : St} {r : Int64} (hf : jSmoke_leastTerms y0 y2 x4 S = some (r, SF)) : XMet l D 40 (cellC T q) q T (ExC aK aV) yX6_leastTerms cX6_leastTerms 12 (some .long) ({ frames := 0, cells := 0, slots := 0, locals := 0 }) [.long y0, .long y2, .int x4] S (some (.long r)) SF := by
  refine x_enter (own := RX6) (by decide +kernel) rfl (Nat.le_of_ble_eq_true rfl) (fun p e s m below meth c A B ls hw hl0 => ?_)
  have hl : lv_has ls 12 [(0, .long y0), (2, .long y2), (4, .int x4)] := hl0
  exact jSmoke_leastTerms_b0_ok B y0 y2 x4 S hf hw hl

set_option maxHeartbeats 4000000 in
theorem jChain_read_b116_ok (B : XB p s m args meth c A cX0_read 7 none RX0) {SF : St} (K116 : Int32 → St → Option (St)) (hK116 : ∀ (x3 : Int32) (S : St) (H : Heap) (locs : List Loc) (ls : Array Slot), K116 x3 S = some SF → Xw D 40 (cellC T q) q T (ExC aK aV) A s S H locs → lv_has ls 7 [(0, .ref (q 36)), (3, .int x3)] → XG p l e ({ frames := 1, cells := 0, slots := 0, locals := 25 }) s m args below meth c D 40 (cellC T q) q T A SF none H locs 116 ls [])  (x3 : Int32) (S : St) {H : Heap} {locs : List Loc} {ls : Array Slot} (hf : jChain_read_b116 K116 x3 S = some SF) (hw : Xw D 40 (cellC T q) q T (ExC aK aV) A s S H locs) (hl : lv_has ls 7 [(0, .ref (q 36)), (3, .int x3)]) : XG p l e ({ frames := 1, cells := 0, slots := 0, locals := 25 }) s m args below meth c D 40 (cellC T q) q T A SF none H locs 116 ls [] := by
  unfold jChain_read_b116 at hf
  obtain ⟨hx, hb, hr, hml, hown, hts, hlk, hA⟩ := id B
  refine lv_iload_n hx hb dX0_read_116 rfl (lv_at hl 1 rfl) ?_
  refine lv_bipush (v := 8) hx hb dX0_read_117 (by decide) ?_
  refine lv_icmp_ge (tgt := 140) hx hb dX0_read_119 (by decide) (fun hc => ?_) (fun hc => ?_)
  · have hf := x_pos hc hf
    exact x_vret B hw hf dX0_read_140
  · have hf := x_neg hc hf
    refine lv_aload_n hx hb dX0_read_122 rfl (lv_at hl 0 rfl) ?_
    refine x_get B hw (Tb := TX0) inX0 36 (by decide) rfl rfl 0 (by decide) u221 (fun _ h => h) rfl dX0_read_123 ?_
    refine lv_iload_n hx hb dX0_read_126 rfl (lv_at hl 1 rfl) ?_
    refine lv_aload_n hx hb dX0_read_127 rfl (lv_at hl 0 rfl) ?_
    refine x_get B hw (Tb := TX0) inX0 36 (by decide) rfl rfl 1 (by decide) u223 (fun _ h => h) rfl dX0_read_128 ?_
    refine lv_iload_n hx hb dX0_read_131 rfl (lv_at hl 1 rfl) ?_
    refine x_lald B hw 38 (by decide) rfl dX0_read_132 hf (fun v1 hf => ?_)
    refine x_last B hw 37 (by decide) (fun _ _ => rfl) dX0_read_133 hf (fun S2 H locs hw hf => ?_)
    refine lv_iinc (v := x3 + 1) (lv' := [(3, .int (x3 + 1)), (0, .ref (q 36))]) hx hb dX0_read_134 hl (k := 1) rfl xi_1 (by decide) rfl (fun ls hl => ?_)
    refine lv_goto (tgt := 116) hx hb dX0_read_137 (by decide) ?_
    exact hK116 (x3 + 1) S2 _ _ _ hf hw (lv_sub hl [1, 0] rfl)

theorem jChain_read_h116_ok (B : XB p s m args meth c A cX0_read 7 none RX0) {SF : St} : ∀ (n : Nat) (x3 : Int32) (S : St) (H : Heap) (locs : List Loc) (ls : Array Slot), jChain_read_h116 n x3 S = some SF → Xw D 40 (cellC T q) q T (ExC aK aV) A s S H locs → lv_has ls 7 [(0, .ref (q 36)), (3, .int x3)] → XG p l e ({ frames := 1, cells := 0, slots := 0, locals := 25 }) s m args below meth c D 40 (cellC T q) q T A SF none H locs 116 ls [] := by
  intro n
  induction n with
  | zero =>
    intro x3 S H locs ls hf hw hl
    rw [jChain_read_h116] at hf
    cases hf
  | succ n ih =>
    intro x3 S H locs ls hf hw hl
    rw [jChain_read_h116] at hf
    exact jChain_read_b116_ok B (jChain_read_h116 n) ih x3 S hf hw hl

set_option maxHeartbeats 4000000 in
theorem jChain_read_b50_ok (B : XB p s m args meth c A cX0_read 7 none RX0) {SF : St} (K23 : Int32 → St → Option (St)) (hK23 : ∀ (x3 : Int32) (S : St) (H : Heap) (locs : List Loc) (ls : Array Slot), K23 x3 S = some SF → Xw D 40 (cellC T q) q T (ExC aK aV) A s S H locs → lv_has ls 7 [(0, .ref (q 36)), (1, .ref (q 14)), (2, .ref (q 19)), (3, .int x3)] → XG p l e ({ frames := 1, cells := 0, slots := 0, locals := 25 }) s m args below meth c D 40 (cellC T q) q T A SF none H locs 23 ls []) (K50 : Int32 → Int32 → Int32 → St → Option (St)) (hK50 : ∀ (x3 : Int32) (x4 : Int32) (x5 : Int32) (S : St) (H : Heap) (locs : List Loc) (ls : Array Slot), K50 x3 x4 x5 S = some SF → Xw D 40 (cellC T q) q T (ExC aK aV) A s S H locs → lv_has ls 7 [(0, .ref (q 36)), (1, .ref (q 14)), (2, .ref (q 19)), (3, .int x3), (4, .int x4), (5, .int x5)] → XG p l e ({ frames := 1, cells := 0, slots := 0, locals := 25 }) s m args below meth c D 40 (cellC T q) q T A SF none H locs 50 ls [])  (x3 : Int32) (x4 : Int32) (x5 : Int32) (S : St) {H : Heap} {locs : List Loc} {ls : Array Slot} (hf : jChain_read_b50 K23 K50 x3 x4 x5 S = some SF) (hw : Xw D 40 (cellC T q) q T (ExC aK aV) A s S H locs) (hl : lv_has ls 7 [(0, .ref (q 36)), (1, .ref (q 14)), (2, .ref (q 19)), (3, .int x3), (4, .int x4), (5, .int x5)]) : XG p l e ({ frames := 1, cells := 0, slots := 0, locals := 25 }) s m args below meth c D 40 (cellC T q) q T A SF none H locs 50 ls [] := by
  unfold jChain_read_b50 at hf
  obtain ⟨hx, hb, hr, hml, hown, hts, hlk, hA⟩ := id B
  refine lv_iload hx hb dX0_read_50 (lv_at hl 5 rfl) ?_
  refine lv_bipush (v := 8) hx hb dX0_read_52 (by decide) ?_
  refine lv_icmp_ge (tgt := 108) hx hb dX0_read_54 (by decide) (fun hc => ?_) (fun hc => ?_)
  · have hf := x_pos hc hf
    refine lv_iinc (v := x3 + 1) (lv' := [(3, .int (x3 + 1)), (0, .ref (q 36)), (1, .ref (q 14)), (2, .ref (q 19)), (4, .int x4), (5, .int x5)]) hx hb dX0_read_108 hl (k := 3) rfl xi_1 (by decide) rfl (fun ls hl => ?_)
    refine lv_goto (tgt := 23) hx hb dX0_read_111 (by decide) ?_
    exact hK23 (x3 + 1) S _ _ _ hf hw (lv_sub hl [1, 2, 3, 0] rfl)
  · have hf := x_neg hc hf
    refine lv_aload_n hx hb dX0_read_57 rfl (lv_at hl 1 rfl) ?_
    refine lv_iload hx hb dX0_read_58 (lv_at hl 5 rfl) ?_
    obtain ⟨v8, S7, hc, hf⟩ := x_bd_some hf
    refine x_callV B ExC_ok hw 14 (by decide) rfl rfl (As := [.int x5]) (rest := []) (st1 := [.int v8]) (jMenu_leastSaying_ok hc) u561 u545 u546 u41 u547 hdX1_leastSaying rfl ⟨Nat.le_of_ble_eq_true rfl, Nat.le_of_ble_eq_true rfl⟩ ⟨rfl, rfl⟩ hl.1 (Nat.le_of_ble_eq_true rfl) dX0_read_60 (fun H locs hw => ?_) rfl rfl
    refine lv_istore (lv' := [(6, .int v8), (0, .ref (q 36)), (1, .ref (q 14)), (2, .ref (q 19)), (3, .int x3), (4, .int x4), (5, .int x5)]) hx hb dX0_read_63 hl (by decide) rfl (fun ls hl => ?_)
    refine lv_iload hx hb dX0_read_65 (lv_at hl 0 rfl) ?_
    refine lv_iconst (v := (-1)) hx hb dX0_read_67 (by decide) ?_
    refine lv_icmp_eq (tgt := 102) hx hb dX0_read_68 (by decide) (fun hc => ?_) (fun hc => ?_)
    · have hf := x_pos hc hf
      refine lv_iinc (v := x5 + 1) (lv' := [(5, .int (x5 + 1)), (6, .int v8), (0, .ref (q 36)), (1, .ref (q 14)), (2, .ref (q 19)), (3, .int x3), (4, .int x4)]) hx hb dX0_read_102 hl (k := 6) rfl xi_1 (by decide) rfl (fun ls hl => ?_)
      refine lv_goto (tgt := 50) hx hb dX0_read_105 (by decide) ?_
      exact hK50 x3 x4 (x5 + 1) S7 _ _ _ hf hw (lv_sub hl [2, 3, 4, 5, 6, 0] rfl)
    · have hf := x_neg hc hf
      refine lv_aload_n hx hb dX0_read_71 rfl (lv_at hl 1 rfl) ?_
      refine x_get B hw (Tb := TX0) inX0 36 (by decide) rfl rfl 1 (by decide) u223 (fun _ h => h) rfl dX0_read_72 ?_
      refine lv_iload hx hb dX0_read_75 (lv_at hl 5 rfl) ?_
      refine lv_dup2_11 hx hb dX0_read_77 rfl rfl ?_
      refine x_lald B hw 38 (by decide) rfl dX0_read_78 hf (fun v9 hf => ?_)
      refine lv_aload_n hx hb dX0_read_79 rfl (lv_at hl 1 rfl) ?_
      refine x_get B hw (Tb := TX0) inX0 36 (by decide) rfl rfl 0 (by decide) u221 (fun _ h => h) rfl dX0_read_80 ?_
      refine lv_iload hx hb dX0_read_83 (lv_at hl 6 rfl) ?_
      refine x_lald B hw 37 (by decide) rfl dX0_read_85 hf (fun v10 hf => ?_)
      refine lv_aload_n hx hb dX0_read_86 rfl (lv_at hl 3 rfl) ?_
      refine lv_aload_n hx hb dX0_read_87 rfl (lv_at hl 2 rfl) ?_
      refine x_get B hw (Tb := TX1) inX1 14 (by decide) rfl rfl 2 (by decide) u107 (fun _ h => h) rfl dX0_read_88 ?_
      refine lv_iload hx hb dX0_read_91 (lv_at hl 0 rfl) ?_
      refine x_iald B hw 17 (by decide) rfl dX0_read_93 hf (fun v11 hf => ?_)
      refine lv_iload_n hx hb dX0_read_94 rfl (lv_at hl 4 rfl) ?_
      obtain ⟨v13, S12, hc, hf⟩ := x_bd_some hf
      refine x_callV B ExC_ok hw 19 (by decide) rfl rfl (As := [.int v11, .int x3]) (rest := [.long v10, .long v9, .int x4, .ref (q 38)]) (st1 := [.int v13, .long v10, .long v9, .int x4, .ref (q 38)]) (jSuppers_thousandths_ok hc) u562 u528 u529 u42 u530 hdX3_thousandths rfl ⟨Nat.le_of_ble_eq_true rfl, Nat.le_of_ble_eq_true rfl⟩ ⟨rfl, rfl⟩ hl.1 (Nat.le_of_ble_eq_true rfl) dX0_read_95 (fun H locs hw => ?_) rfl rfl
      refine lv_i2l (v := Int32.toInt64 v13) hx hb dX0_read_98 rfl ?_
      refine lv_lmul hx hb dX0_read_99 ?_
      refine lv_ladd hx hb dX0_read_100 ?_
      refine x_last B hw 38 (by decide) (fun _ _ => rfl) dX0_read_101 hf (fun S14 H locs hw hf => ?_)
      refine lv_iinc (v := x5 + 1) (lv' := [(5, .int (x5 + 1)), (6, .int v8), (0, .ref (q 36)), (1, .ref (q 14)), (2, .ref (q 19)), (3, .int x3), (4, .int x4)]) hx hb dX0_read_102 hl (k := 6) rfl xi_1 (by decide) rfl (fun ls hl => ?_)
      refine lv_goto (tgt := 50) hx hb dX0_read_105 (by decide) ?_
      exact hK50 x3 x4 (x5 + 1) S14 _ _ _ hf hw (lv_sub hl [2, 3, 4, 5, 6, 0] rfl)

theorem jChain_read_h50_ok (B : XB p s m args meth c A cX0_read 7 none RX0) {SF : St} (K23 : Int32 → St → Option (St)) (hK23 : ∀ (x3 : Int32) (S : St) (H : Heap) (locs : List Loc) (ls : Array Slot), K23 x3 S = some SF → Xw D 40 (cellC T q) q T (ExC aK aV) A s S H locs → lv_has ls 7 [(0, .ref (q 36)), (1, .ref (q 14)), (2, .ref (q 19)), (3, .int x3)] → XG p l e ({ frames := 1, cells := 0, slots := 0, locals := 25 }) s m args below meth c D 40 (cellC T q) q T A SF none H locs 23 ls []) : ∀ (n : Nat) (x3 : Int32) (x4 : Int32) (x5 : Int32) (S : St) (H : Heap) (locs : List Loc) (ls : Array Slot), jChain_read_h50 K23 n x3 x4 x5 S = some SF → Xw D 40 (cellC T q) q T (ExC aK aV) A s S H locs → lv_has ls 7 [(0, .ref (q 36)), (1, .ref (q 14)), (2, .ref (q 19)), (3, .int x3), (4, .int x4), (5, .int x5)] → XG p l e ({ frames := 1, cells := 0, slots := 0, locals := 25 }) s m args below meth c D 40 (cellC T q) q T A SF none H locs 50 ls [] := by
  intro n
  induction n with
  | zero =>
    intro x3 x4 x5 S H locs ls hf hw hl
    rw [jChain_read_h50] at hf
    cases hf
  | succ n ih =>
    intro x3 x4 x5 S H locs ls hf hw hl
    rw [jChain_read_h50] at hf
    exact jChain_read_b50_ok B K23 hK23 (jChain_read_h50 K23 n) ih x3 x4 x5 S hf hw hl

set_option maxHeartbeats 4000000 in
theorem jChain_read_b23_ok (B : XB p s m args meth c A cX0_read 7 none RX0) {SF : St} (K23 : Int32 → St → Option (St)) (hK23 : ∀ (x3 : Int32) (S : St) (H : Heap) (locs : List Loc) (ls : Array Slot), K23 x3 S = some SF → Xw D 40 (cellC T q) q T (ExC aK aV) A s S H locs → lv_has ls 7 [(0, .ref (q 36)), (1, .ref (q 14)), (2, .ref (q 19)), (3, .int x3)] → XG p l e ({ frames := 1, cells := 0, slots := 0, locals := 25 }) s m args below meth c D 40 (cellC T q) q T A SF none H locs 23 ls [])  (x3 : Int32) (S : St) {H : Heap} {locs : List Loc} {ls : Array Slot} (hf : jChain_read_b23 K23 x3 S = some SF) (hw : Xw D 40 (cellC T q) q T (ExC aK aV) A s S H locs) (hl : lv_has ls 7 [(0, .ref (q 36)), (1, .ref (q 14)), (2, .ref (q 19)), (3, .int x3)]) : XG p l e ({ frames := 1, cells := 0, slots := 0, locals := 25 }) s m args below meth c D 40 (cellC T q) q T A SF none H locs 23 ls [] := by
  unfold jChain_read_b23 at hf
  obtain ⟨hx, hb, hr, hml, hown, hts, hlk, hA⟩ := id B
  refine lv_iload_n hx hb dX0_read_23 rfl (lv_at hl 3 rfl) ?_
  refine lv_bipush (v := 8) hx hb dX0_read_24 (by decide) ?_
  refine lv_icmp_ge (tgt := 114) hx hb dX0_read_26 (by decide) (fun hc => ?_) (fun hc => ?_)
  · have hf := x_pos hc hf
    refine lv_iconst (v := 0) hx hb dX0_read_114 (by decide) ?_
    refine lv_istore_n (lv' := [(3, .int 0), (0, .ref (q 36)), (1, .ref (q 14)), (2, .ref (q 19))]) hx hb dX0_read_115 rfl hl (by decide) rfl (fun ls hl => ?_)
    exact jChain_read_h116_ok B FU 0 S _ _ _ hf hw (lv_sub hl [1, 0] rfl)
  · have hf := x_neg hc hf
    refine lv_aload_n hx hb dX0_read_29 rfl (lv_at hl 1 rfl) ?_
    refine lv_iload_n hx hb dX0_read_30 rfl (lv_at hl 3 rfl) ?_
    obtain ⟨v4, S3, hc, hf⟩ := x_bd_some hf
    refine x_callV B ExC_ok hw 14 (by decide) rfl rfl (As := [.int x3]) (rest := []) (st1 := [.int v4]) (jMenu_meaning_ok hc) u559 u536 u537 u41 u538 hdX1_meaning rfl ⟨Nat.le_of_ble_eq_true rfl, Nat.le_of_ble_eq_true rfl⟩ ⟨rfl, rfl⟩ hl.1 (Nat.le_of_ble_eq_true rfl) dX0_read_31 (fun H locs hw => ?_) rfl rfl
    refine lv_istore (lv' := [(4, .int v4), (0, .ref (q 36)), (1, .ref (q 14)), (2, .ref (q 19)), (3, .int x3)]) hx hb dX0_read_34 hl (by decide) rfl (fun ls hl => ?_)
    refine lv_iload hx hb dX0_read_36 (lv_at hl 0 rfl) ?_
    obtain ⟨v6, S5, hc, hf⟩ := x_bd_some hf
    refine x_callSN B ExC_ok hw (As := [.int v4]) (rest := []) (st1 := [.int v6]) (jSmoke_isWord_ok hc) hw.2.2.2.2.2.2.2.2.2.2 u479 u38 u480 hdX6_isWord rfl ⟨Nat.le_of_ble_eq_true rfl, Nat.le_of_ble_eq_true rfl⟩ ⟨rfl, rfl⟩ hl.1 (Nat.le_of_ble_eq_true rfl) dX0_read_38 (fun H locs hw => ?_) rfl rfl
    refine lv_if_ne (tgt := 47) hx hb dX0_read_41 (by decide) (fun hc => ?_) (fun hc => ?_)
    · have hf := x_neg hc hf
      refine lv_iconst (v := 0) hx hb dX0_read_47 (by decide) ?_
      refine lv_istore (lv' := [(5, .int 0), (4, .int v4), (0, .ref (q 36)), (1, .ref (q 14)), (2, .ref (q 19)), (3, .int x3)]) hx hb dX0_read_48 hl (by decide) rfl (fun ls hl => ?_)
      exact jChain_read_h50_ok B K23 hK23 FU x3 v4 0 S5 _ _ _ hf hw (lv_sub hl [2, 3, 4, 5, 1, 0] rfl)
    · have hf := x_pos hc hf
      refine lv_goto (tgt := 108) hx hb dX0_read_44 (by decide) ?_
      refine lv_iinc (v := x3 + 1) (lv' := [(3, .int (x3 + 1)), (4, .int v4), (0, .ref (q 36)), (1, .ref (q 14)), (2, .ref (q 19))]) hx hb dX0_read_108 hl (k := 4) rfl xi_1 (by decide) rfl (fun ls hl => ?_)
      refine lv_goto (tgt := 23) hx hb dX0_read_111 (by decide) ?_
      exact hK23 (x3 + 1) S5 _ _ _ hf hw (lv_sub hl [2, 3, 4, 0] rfl)

theorem jChain_read_h23_ok (B : XB p s m args meth c A cX0_read 7 none RX0) {SF : St} : ∀ (n : Nat) (x3 : Int32) (S : St) (H : Heap) (locs : List Loc) (ls : Array Slot), jChain_read_h23 n x3 S = some SF → Xw D 40 (cellC T q) q T (ExC aK aV) A s S H locs → lv_has ls 7 [(0, .ref (q 36)), (1, .ref (q 14)), (2, .ref (q 19)), (3, .int x3)] → XG p l e ({ frames := 1, cells := 0, slots := 0, locals := 25 }) s m args below meth c D 40 (cellC T q) q T A SF none H locs 23 ls [] := by
  intro n
  induction n with
  | zero =>
    intro x3 S H locs ls hf hw hl
    rw [jChain_read_h23] at hf
    cases hf
  | succ n ih =>
    intro x3 S H locs ls hf hw hl
    rw [jChain_read_h23] at hf
    exact jChain_read_b23_ok B (jChain_read_h23 n) ih x3 S hf hw hl

set_option maxHeartbeats 4000000 in
theorem jChain_read_b2_ok (B : XB p s m args meth c A cX0_read 7 none RX0) {SF : St} (K2 : Int32 → St → Option (St)) (hK2 : ∀ (x3 : Int32) (S : St) (H : Heap) (locs : List Loc) (ls : Array Slot), K2 x3 S = some SF → Xw D 40 (cellC T q) q T (ExC aK aV) A s S H locs → lv_has ls 7 [(0, .ref (q 36)), (1, .ref (q 14)), (2, .ref (q 19)), (3, .int x3)] → XG p l e ({ frames := 1, cells := 0, slots := 0, locals := 25 }) s m args below meth c D 40 (cellC T q) q T A SF none H locs 2 ls [])  (x3 : Int32) (S : St) {H : Heap} {locs : List Loc} {ls : Array Slot} (hf : jChain_read_b2 K2 x3 S = some SF) (hw : Xw D 40 (cellC T q) q T (ExC aK aV) A s S H locs) (hl : lv_has ls 7 [(0, .ref (q 36)), (1, .ref (q 14)), (2, .ref (q 19)), (3, .int x3)]) : XG p l e ({ frames := 1, cells := 0, slots := 0, locals := 25 }) s m args below meth c D 40 (cellC T q) q T A SF none H locs 2 ls [] := by
  unfold jChain_read_b2 at hf
  obtain ⟨hx, hb, hr, hml, hown, hts, hlk, hA⟩ := id B
  refine lv_iload_n hx hb dX0_read_2 rfl (lv_at hl 3 rfl) ?_
  refine lv_bipush (v := 8) hx hb dX0_read_3 (by decide) ?_
  refine lv_icmp_ge (tgt := 21) hx hb dX0_read_5 (by decide) (fun hc => ?_) (fun hc => ?_)
  · have hf := x_pos hc hf
    refine lv_iconst (v := 0) hx hb dX0_read_21 (by decide) ?_
    refine lv_istore_n (lv' := [(3, .int 0), (0, .ref (q 36)), (1, .ref (q 14)), (2, .ref (q 19))]) hx hb dX0_read_22 rfl hl (by decide) rfl (fun ls hl => ?_)
    exact jChain_read_h23_ok B FU 0 S _ _ _ hf hw (lv_sub hl [1, 2, 3, 0] rfl)
  · have hf := x_neg hc hf
    refine lv_aload_n hx hb dX0_read_8 rfl (lv_at hl 0 rfl) ?_
    refine x_get B hw (Tb := TX0) inX0 36 (by decide) rfl rfl 1 (by decide) u223 (fun _ h => h) rfl dX0_read_9 ?_
    refine lv_iload_n hx hb dX0_read_12 rfl (lv_at hl 3 rfl) ?_
    refine lv_lconst (v := 0) hx hb dX0_read_13 (by decide) ?_
    refine x_last B hw 38 (by decide) (fun _ _ => rfl) dX0_read_14 hf (fun S15 H locs hw hf => ?_)
    refine lv_iinc (v := x3 + 1) (lv' := [(3, .int (x3 + 1)), (0, .ref (q 36)), (1, .ref (q 14)), (2, .ref (q 19))]) hx hb dX0_read_15 hl (k := 3) rfl xi_1 (by decide) rfl (fun ls hl => ?_)
    refine lv_goto (tgt := 2) hx hb dX0_read_18 (by decide) ?_
    exact hK2 (x3 + 1) S15 _ _ _ hf hw (lv_sub hl [1, 2, 3, 0] rfl)

theorem jChain_read_h2_ok (B : XB p s m args meth c A cX0_read 7 none RX0) {SF : St} : ∀ (n : Nat) (x3 : Int32) (S : St) (H : Heap) (locs : List Loc) (ls : Array Slot), jChain_read_h2 n x3 S = some SF → Xw D 40 (cellC T q) q T (ExC aK aV) A s S H locs → lv_has ls 7 [(0, .ref (q 36)), (1, .ref (q 14)), (2, .ref (q 19)), (3, .int x3)] → XG p l e ({ frames := 1, cells := 0, slots := 0, locals := 25 }) s m args below meth c D 40 (cellC T q) q T A SF none H locs 2 ls [] := by
  intro n
  induction n with
  | zero =>
    intro x3 S H locs ls hf hw hl
    rw [jChain_read_h2] at hf
    cases hf
  | succ n ih =>
    intro x3 S H locs ls hf hw hl
    rw [jChain_read_h2] at hf
    exact jChain_read_b2_ok B (jChain_read_h2 n) ih x3 S hf hw hl

set_option maxHeartbeats 4000000 in
theorem jChain_read_b0_ok (B : XB p s m args meth c A cX0_read 7 none RX0) {SF : St}  (S : St) {H : Heap} {locs : List Loc} {ls : Array Slot} (hf : jChain_read S = some SF) (hw : Xw D 40 (cellC T q) q T (ExC aK aV) A s S H locs) (hl : lv_has ls 7 [(0, .ref (q 36)), (1, .ref (q 14)), (2, .ref (q 19))]) : XG p l e ({ frames := 1, cells := 0, slots := 0, locals := 25 }) s m args below meth c D 40 (cellC T q) q T A SF none H locs 0 ls [] := by
  unfold jChain_read at hf
  obtain ⟨hx, hb, hr, hml, hown, hts, hlk, hA⟩ := id B
  refine lv_iconst (v := 0) hx hb dX0_read_0 (by decide) ?_
  refine lv_istore_n (lv' := [(3, .int 0), (0, .ref (q 36)), (1, .ref (q 14)), (2, .ref (q 19))]) hx hb dX0_read_1 rfl hl (by decide) rfl (fun ls hl => ?_)
  exact jChain_read_h2_ok B FU 0 S _ _ _ hf hw (lv_sub hl [1, 2, 3, 0] rfl)

set_option maxHeartbeats 4000000 in
theorem jChain_read_ok {S SF : St} (hf : jChain_read S = some SF) : XMet l D 40 (cellC T q) q T (ExC aK aV) yX0_read cX0_read 7 none ({ frames := 1, cells := 0, slots := 0, locals := 25 }) [.ref (q 36), .ref (q 14), .ref (q 19)] S none SF := by
  refine x_enter (own := RX0) (by decide +kernel) rfl (Nat.le_of_ble_eq_true rfl) (fun p e s m below meth c A B ls hw hl0 => ?_)
  have hl : lv_has ls 7 [(0, .ref (q 36)), (1, .ref (q 14)), (2, .ref (q 19))] := hl0
  exact jChain_read_b0_ok B S hf hw hl

set_option maxHeartbeats 4000000 in
theorem jSmoke_chain_b63_ok (B : XB p s m args meth c A cX6_chain 7 (some .long) RX6) {SF : St} {r : Int64} (K63 : Int32 → Int32 → Int32 → Int64 → Int32 → St → Option (Int64 × St)) (hK63 : ∀ (x1 : Int32) (x2 : Int32) (x3 : Int32) (y4 : Int64) (x6 : Int32) (S : St) (H : Heap) (locs : List Loc) (ls : Array Slot), K63 x1 x2 x3 y4 x6 S = some (r, SF) → Xw D 40 (cellC T q) q T (ExC aK aV) A s S H locs → lv_has ls 7 [(0, .ref (q 0)), (1, .int x1), (2, .int x2), (3, .int x3), (4, .long y4), (6, .int x6)] → XG p l e ({ frames := 2, cells := 0, slots := 0, locals := 51 }) s m args below meth c D 40 (cellC T q) q T A SF (some (.long r)) H locs 63 ls [])  (x1 : Int32) (x2 : Int32) (x3 : Int32) (y4 : Int64) (x6 : Int32) (S : St) {H : Heap} {locs : List Loc} {ls : Array Slot} (hf : jSmoke_chain_b63 K63 x1 x2 x3 y4 x6 S = some (r, SF)) (hw : Xw D 40 (cellC T q) q T (ExC aK aV) A s S H locs) (hl : lv_has ls 7 [(0, .ref (q 0)), (1, .int x1), (2, .int x2), (3, .int x3), (4, .long y4), (6, .int x6)]) : XG p l e ({ frames := 2, cells := 0, slots := 0, locals := 51 }) s m args below meth c D 40 (cellC T q) q T A SF (some (.long r)) H locs 63 ls [] := by
  unfold jSmoke_chain_b63 at hf
  obtain ⟨hx, hb, hr, hml, hown, hts, hlk, hA⟩ := id B
  refine lv_iload hx hb dX6_chain_63 (lv_at hl 5 rfl) ?_
  refine lv_iload_n hx hb dX6_chain_65 rfl (lv_at hl 2 rfl) ?_
  refine lv_icmp_ge (tgt := 98) hx hb dX6_chain_66 (by decide) (fun hc => ?_) (fun hc => ?_)
  · have hf := x_pos hc hf
    refine lv_aload_n hx hb dX6_chain_98 rfl (lv_at hl 0 rfl) ?_
    refine x_get B hw (Tb := TX6) inX6 0 (by decide) rfl rfl 7 (by decide) u237 (fun _ h => h) rfl dX6_chain_99 ?_
    refine x_get B hw (Tb := TX0) inX0 36 (by decide) rfl rfl 0 (by decide) u222 (fun _ h => h) rfl dX6_chain_102 ?_
    refine lv_iload_n hx hb dX6_chain_105 rfl (lv_at hl 1 rfl) ?_
    refine x_lald B hw 37 (by decide) rfl dX6_chain_106 hf (fun v6 hf => ?_)
    refine lv_lload hx hb dX6_chain_107 (lv_at hl 4 rfl) ?_
    refine lv_iload_n hx hb dX6_chain_109 rfl (lv_at hl 3 rfl) ?_
    obtain ⟨v8, S7, hc, hf⟩ := x_bd_some hf
    refine x_callS B ExC_ok hw (As := [.long v6, .long y4, .int x3]) (rest := []) (st1 := [.long v8]) (jSmoke_leastTerms_ok hc) u548 u549 u38 u550 hdX6_leastTerms rfl ⟨Nat.le_of_ble_eq_true rfl, Nat.le_of_ble_eq_true rfl⟩ ⟨rfl, rfl⟩ hl.1 (Nat.le_of_ble_eq_true rfl) dX6_chain_110 (fun H locs hw => ?_) rfl rfl
    exact x_lret B hw hf dX6_chain_113
  · have hf := x_neg hc hf
    refine lv_aload_n hx hb dX6_chain_69 rfl (lv_at hl 0 rfl) ?_
    refine x_get B hw (Tb := TX6) inX6 0 (by decide) rfl rfl 7 (by decide) u237 (fun _ h => h) rfl dX6_chain_70 ?_
    refine lv_aload_n hx hb dX6_chain_73 rfl (lv_at hl 0 rfl) ?_
    refine x_get B hw (Tb := TX6) inX6 0 (by decide) rfl rfl 2 (by decide) u232 (fun _ h => h) rfl dX6_chain_74 ?_
    refine lv_aload_n hx hb dX6_chain_77 rfl (lv_at hl 0 rfl) ?_
    refine x_get B hw (Tb := TX6) inX6 0 (by decide) rfl rfl 3 (by decide) u233 (fun _ h => h) rfl dX6_chain_78 ?_
    obtain ⟨S9, hc, hf⟩ := x_bv_some hf
    refine x_callV B ExC_ok hw 36 (by decide) rfl rfl (As := [.ref (q 14), .ref (q 19)]) (rest := []) (st1 := []) (jChain_read_ok hc) u555 u556 u557 u44 u558 hdX0_read rfl ⟨Nat.le_of_ble_eq_true rfl, Nat.le_of_ble_eq_true rfl⟩ ⟨rfl, rfl⟩ hl.1 (Nat.le_of_ble_eq_true rfl) dX6_chain_81 (fun H locs hw => ?_) rfl rfl
    refine lv_lload hx hb dX6_chain_84 (lv_at hl 4 rfl) ?_
    refine lv_ldc2 (v := 1000) hx hb hown (hts _ u563) dX6_chain_86 ?_
    refine lv_lmul hx hb dX6_chain_89 ?_
    refine x_letl hf (fun v10 hf => ?_)
    refine lv_lstore (lv' := [(4, .long v10), (0, .ref (q 0)), (1, .int x1), (2, .int x2), (3, .int x3), (6, .int x6)]) hx hb dX6_chain_90 hl (by decide) rfl (fun ls hl => ?_)
    refine lv_iinc (v := x6 + 1) (lv' := [(6, .int (x6 + 1)), (4, .long v10), (0, .ref (q 0)), (1, .int x1), (2, .int x2), (3, .int x3)]) hx hb dX6_chain_92 hl (k := 5) rfl xi_1 (by decide) rfl (fun ls hl => ?_)
    refine lv_goto (tgt := 63) hx hb dX6_chain_95 (by decide) ?_
    exact hK63 x1 x2 x3 v10 (x6 + 1) S9 _ _ _ hf hw (lv_sub hl [2, 3, 4, 5, 1, 0] rfl)

theorem jSmoke_chain_h63_ok (B : XB p s m args meth c A cX6_chain 7 (some .long) RX6) {SF : St} {r : Int64} : ∀ (n : Nat) (x1 : Int32) (x2 : Int32) (x3 : Int32) (y4 : Int64) (x6 : Int32) (S : St) (H : Heap) (locs : List Loc) (ls : Array Slot), jSmoke_chain_h63 n x1 x2 x3 y4 x6 S = some (r, SF) → Xw D 40 (cellC T q) q T (ExC aK aV) A s S H locs → lv_has ls 7 [(0, .ref (q 0)), (1, .int x1), (2, .int x2), (3, .int x3), (4, .long y4), (6, .int x6)] → XG p l e ({ frames := 2, cells := 0, slots := 0, locals := 51 }) s m args below meth c D 40 (cellC T q) q T A SF (some (.long r)) H locs 63 ls [] := by
  intro n
  induction n with
  | zero =>
    intro x1 x2 x3 y4 x6 S H locs ls hf hw hl
    rw [jSmoke_chain_h63] at hf
    cases hf
  | succ n ih =>
    intro x1 x2 x3 y4 x6 S H locs ls hf hw hl
    rw [jSmoke_chain_h63] at hf
    exact jSmoke_chain_b63_ok B (jSmoke_chain_h63 n) ih x1 x2 x3 y4 x6 S hf hw hl

set_option maxHeartbeats 4000000 in
theorem jSmoke_chain_b0_ok (B : XB p s m args meth c A cX6_chain 7 (some .long) RX6) {SF : St} {r : Int64}  (x1 : Int32) (x2 : Int32) (x3 : Int32) (S : St) {H : Heap} {locs : List Loc} {ls : Array Slot} (hf : jSmoke_chain x1 x2 x3 S = some (r, SF)) (hw : Xw D 40 (cellC T q) q T (ExC aK aV) A s S H locs) (hl : lv_has ls 7 [(0, .ref (q 0)), (1, .int x1), (2, .int x2), (3, .int x3)]) : XG p l e ({ frames := 2, cells := 0, slots := 0, locals := 51 }) s m args below meth c D 40 (cellC T q) q T A SF (some (.long r)) H locs 0 ls [] := by
  unfold jSmoke_chain at hf
  obtain ⟨hx, hb, hr, hml, hown, hts, hlk, hA⟩ := id B
  refine lv_iload_n hx hb dX6_chain_0 rfl (lv_at hl 1 rfl) ?_
  obtain ⟨v2, S1, hc, hf⟩ := x_bd_some hf
  refine x_callS B ExC_ok hw (As := [.int x1]) (rest := []) (st1 := [.int v2]) (jSmoke_isWord_ok hc) u478 u479 u38 u480 hdX6_isWord rfl ⟨Nat.le_of_ble_eq_true rfl, Nat.le_of_ble_eq_true rfl⟩ ⟨rfl, rfl⟩ hl.1 (Nat.le_of_ble_eq_true rfl) dX6_chain_1 (fun H locs hw => ?_) rfl rfl
  refine lv_if_eq (tgt := 26) hx hb dX6_chain_4 (by decide) (fun hc => ?_) (fun hc => ?_)
  · have hf := x_pos hc hf
    refine lv_ldc2 (v := (-1)) hx hb hown (hts _ u543) dX6_chain_26 ?_
    exact x_lret B hw hf dX6_chain_29
  · have hf := x_neg hc hf
    refine lv_iload_n hx hb dX6_chain_7 rfl (lv_at hl 2 rfl) ?_
    refine lv_iconst (v := 1) hx hb dX6_chain_8 (by decide) ?_
    refine lv_icmp_lt (tgt := 26) hx hb dX6_chain_9 (by decide) (fun hc => ?_) (fun hc => ?_)
    · have hf := x_pos hc hf
      refine lv_ldc2 (v := (-1)) hx hb hown (hts _ u543) dX6_chain_26 ?_
      exact x_lret B hw hf dX6_chain_29
    · have hf := x_neg hc hf
      refine lv_iload_n hx hb dX6_chain_12 rfl (lv_at hl 2 rfl) ?_
      refine lv_iconst (v := 4) hx hb dX6_chain_13 (by decide) ?_
      refine lv_icmp_gt (tgt := 26) hx hb dX6_chain_14 (by decide) (fun hc => ?_) (fun hc => ?_)
      · have hf := x_pos hc hf
        refine lv_ldc2 (v := (-1)) hx hb hown (hts _ u543) dX6_chain_26 ?_
        exact x_lret B hw hf dX6_chain_29
      · have hf := x_neg hc hf
        refine lv_iload_n hx hb dX6_chain_17 rfl (lv_at hl 3 rfl) ?_
        refine lv_if_lt (tgt := 26) hx hb dX6_chain_18 (by decide) (fun hc => ?_) (fun hc => ?_)
        · have hf := x_pos hc hf
          refine lv_ldc2 (v := (-1)) hx hb hown (hts _ u543) dX6_chain_26 ?_
          exact x_lret B hw hf dX6_chain_29
        · have hf := x_neg hc hf
          refine lv_iload_n hx hb dX6_chain_21 rfl (lv_at hl 3 rfl) ?_
          refine lv_iconst (v := 1) hx hb dX6_chain_22 (by decide) ?_
          refine lv_icmp_le (tgt := 30) hx hb dX6_chain_23 (by decide) (fun hc => ?_) (fun hc => ?_)
          · have hf := x_pos hc hf
            refine lv_aload_n hx hb dX6_chain_30 rfl (lv_at hl 0 rfl) ?_
            refine x_get B hw (Tb := TX6) inX6 0 (by decide) rfl rfl 2 (by decide) u232 (fun _ h => h) rfl dX6_chain_31 ?_
            refine lv_iload_n hx hb dX6_chain_34 rfl (lv_at hl 1 rfl) ?_
            obtain ⟨v4, S3, hc, hf⟩ := x_bd_some hf
            refine x_callV B ExC_ok hw 14 (by decide) rfl rfl (As := [.int x1]) (rest := []) (st1 := [.int v4]) (jMenu_leastSaying_ok hc) u544 u545 u546 u41 u547 hdX1_leastSaying rfl ⟨Nat.le_of_ble_eq_true rfl, Nat.le_of_ble_eq_true rfl⟩ ⟨rfl, rfl⟩ hl.1 (Nat.le_of_ble_eq_true rfl) dX6_chain_35 (fun H locs hw => ?_) rfl rfl
            refine lv_iconst (v := (-1)) hx hb dX6_chain_38 (by decide) ?_
            refine lv_icmp_ne (tgt := 49) hx hb dX6_chain_39 (by decide) (fun hc => ?_) (fun hc => ?_)
            · have hf := x_neg hc hf
              refine lv_aload_n hx hb dX6_chain_49 rfl (lv_at hl 0 rfl) ?_
              refine x_get B hw (Tb := TX6) inX6 0 (by decide) rfl rfl 7 (by decide) u237 (fun _ h => h) rfl dX6_chain_50 ?_
              refine lv_iload_n hx hb dX6_chain_53 rfl (lv_at hl 1 rfl) ?_
              obtain ⟨S5, hc, hf⟩ := x_bv_some hf
              refine x_callV B ExC_ok hw 36 (by decide) rfl rfl (As := [.int x1]) (rest := []) (st1 := []) (jChain_begin_ok hc) u551 u552 u553 u44 u554 hdX0_begin rfl ⟨Nat.le_of_ble_eq_true rfl, Nat.le_of_ble_eq_true rfl⟩ ⟨rfl, rfl⟩ hl.1 (Nat.le_of_ble_eq_true rfl) dX6_chain_54 (fun H locs hw => ?_) rfl rfl
              refine lv_lconst (v := 1) hx hb dX6_chain_57 (by decide) ?_
              refine lv_lstore (lv' := [(4, .long 1), (0, .ref (q 0)), (1, .int x1), (2, .int x2), (3, .int x3)]) hx hb dX6_chain_58 hl (by decide) rfl (fun ls hl => ?_)
              refine lv_iconst (v := 0) hx hb dX6_chain_60 (by decide) ?_
              refine lv_istore (lv' := [(6, .int 0), (4, .long 1), (0, .ref (q 0)), (1, .int x1), (2, .int x2), (3, .int x3)]) hx hb dX6_chain_61 hl (by decide) rfl (fun ls hl => ?_)
              exact jSmoke_chain_h63_ok B FU x1 x2 x3 1 0 S5 _ _ _ hf hw (lv_sub hl [2, 3, 4, 5, 1, 0] rfl)
            · have hf := x_pos hc hf
              refine lv_lconst (v := 0) hx hb dX6_chain_42 (by decide) ?_
              refine lv_lconst (v := 1) hx hb dX6_chain_43 (by decide) ?_
              refine lv_iload_n hx hb dX6_chain_44 rfl (lv_at hl 3 rfl) ?_
              obtain ⟨v12, S11, hc, hf⟩ := x_bd_some hf
              refine x_callS B ExC_ok hw (As := [.long 0, .long 1, .int x3]) (rest := []) (st1 := [.long v12]) (jSmoke_leastTerms_ok hc) u548 u549 u38 u550 hdX6_leastTerms rfl ⟨Nat.le_of_ble_eq_true rfl, Nat.le_of_ble_eq_true rfl⟩ ⟨rfl, rfl⟩ hl.1 (Nat.le_of_ble_eq_true rfl) dX6_chain_45 (fun H locs hw => ?_) rfl rfl
              exact x_lret B hw hf dX6_chain_48
          · have hf := x_neg hc hf
            refine lv_ldc2 (v := (-1)) hx hb hown (hts _ u543) dX6_chain_26 ?_
            exact x_lret B hw hf dX6_chain_29

set_option maxHeartbeats 4000000 in
theorem jSmoke_chain_ok {x1 : Int32} {x2 : Int32} {x3 : Int32} {S SF : St} {r : Int64} (hf : jSmoke_chain x1 x2 x3 S = some (r, SF)) : XMet l D 40 (cellC T q) q T (ExC aK aV) yX6_chain cX6_chain 7 (some .long) ({ frames := 2, cells := 0, slots := 0, locals := 51 }) [.ref (q 0), .int x1, .int x2, .int x3] S (some (.long r)) SF := by
  refine x_enter (own := RX6) (by decide +kernel) rfl (Nat.le_of_ble_eq_true rfl) (fun p e s m below meth c A B ls hw hl0 => ?_)
  have hl : lv_has ls 7 [(0, .ref (q 0)), (1, .int x1), (2, .int x2), (3, .int x3)] := hl0
  exact jSmoke_chain_b0_ok B x1 x2 x3 S hf hw hl

set_option maxHeartbeats 4000000 in
theorem jSmoke_weightOf_b17_ok (B : XB p s m args meth c A cX6_weightOf 5 (some .int) RX6) {SF : St} {r : Int32} (K17 : Int32 → Int32 → Int32 → St → Option (Int32 × St)) (hK17 : ∀ (x2 : Int32) (x3 : Int32) (x4 : Int32) (S : St) (H : Heap) (locs : List Loc) (ls : Array Slot), K17 x2 x3 x4 S = some (r, SF) → Xw D 40 (cellC T q) q T (ExC aK aV) A s S H locs → lv_has ls 5 [(0, .ref (q 0)), (2, .int x2), (3, .int x3), (4, .int x4)] → XG p l e ({ frames := 2, cells := 0, slots := 0, locals := 45 }) s m args below meth c D 40 (cellC T q) q T A SF (some (.int r)) H locs 17 ls [])  (x2 : Int32) (x3 : Int32) (x4 : Int32) (S : St) {H : Heap} {locs : List Loc} {ls : Array Slot} (hf : jSmoke_weightOf_b17 K17 x2 x3 x4 S = some (r, SF)) (hw : Xw D 40 (cellC T q) q T (ExC aK aV) A s S H locs) (hl : lv_has ls 5 [(0, .ref (q 0)), (2, .int x2), (3, .int x3), (4, .int x4)]) : XG p l e ({ frames := 2, cells := 0, slots := 0, locals := 45 }) s m args below meth c D 40 (cellC T q) q T A SF (some (.int r)) H locs 17 ls [] := by
  unfold jSmoke_weightOf_b17 at hf
  obtain ⟨hx, hb, hr, hml, hown, hts, hlk, hA⟩ := id B
  refine lv_iload hx hb dX6_weightOf_17 (lv_at hl 3 rfl) ?_
  refine lv_aload_n hx hb dX6_weightOf_19 rfl (lv_at hl 0 rfl) ?_
  refine x_get B hw (Tb := TX6) inX6 0 (by decide) rfl rfl 2 (by decide) u232 (fun _ h => h) rfl dX6_weightOf_20 ?_
  refine x_get B hw (Tb := TX1) inX1 14 (by decide) rfl rfl 4 (by decide) u115 (fun _ h => h) rfl dX6_weightOf_23 ?_
  refine lv_icmp_ge (tgt := 72) hx hb dX6_weightOf_26 (by decide) (fun hc => ?_) (fun hc => ?_)
  · have hf := x_pos hc hf
    refine lv_iload_n hx hb dX6_weightOf_72 rfl (lv_at hl 2 rfl) ?_
    exact x_iret B hw hf dX6_weightOf_73
  · have hf := x_neg hc hf
    refine lv_aload_n hx hb dX6_weightOf_29 rfl (lv_at hl 0 rfl) ?_
    refine x_get B hw (Tb := TX6) inX6 0 (by decide) rfl rfl 2 (by decide) u232 (fun _ h => h) rfl dX6_weightOf_30 ?_
    refine lv_iload hx hb dX6_weightOf_33 (lv_at hl 3 rfl) ?_
    refine lv_aload_n hx hb dX6_weightOf_35 rfl (lv_at hl 0 rfl) ?_
    refine x_get B hw (Tb := TX6) inX6 0 (by decide) rfl rfl 8 (by decide) u238 (fun _ h => h) rfl dX6_weightOf_36 ?_
    obtain ⟨v3, S2, hc, hf⟩ := x_bd_some hf
    refine x_callV B ExC_ok hw 14 (by decide) rfl rfl (As := [.int x4, .ref (q 39)]) (rest := []) (st1 := [.int v3]) (jMenu_fits_39_ok hc) u435 u436 u437 u41 u438 hdX1_fits rfl ⟨Nat.le_of_ble_eq_true rfl, Nat.le_of_ble_eq_true rfl⟩ ⟨rfl, rfl⟩ hl.1 (Nat.le_of_ble_eq_true rfl) dX6_weightOf_39 (fun H locs hw => ?_) rfl rfl
    refine lv_if_eq (tgt := 66) hx hb dX6_weightOf_42 (by decide) (fun hc => ?_) (fun hc => ?_)
    · have hf := x_pos hc hf
      refine lv_iinc (v := x4 + 1) (lv' := [(4, .int (x4 + 1)), (0, .ref (q 0)), (2, .int x2), (3, .int x3)]) hx hb dX6_weightOf_66 hl (k := 3) rfl xi_1 (by decide) rfl (fun ls hl => ?_)
      refine lv_goto (tgt := 17) hx hb dX6_weightOf_69 (by decide) ?_
      exact hK17 x2 x3 (x4 + 1) S2 _ _ _ hf hw (lv_sub hl [1, 2, 3, 0] rfl)
    · have hf := x_neg hc hf
      refine lv_iload_n hx hb dX6_weightOf_45 rfl (lv_at hl 2 rfl) ?_
      refine lv_aload_n hx hb dX6_weightOf_46 rfl (lv_at hl 0 rfl) ?_
      refine x_get B hw (Tb := TX6) inX6 0 (by decide) rfl rfl 3 (by decide) u233 (fun _ h => h) rfl dX6_weightOf_47 ?_
      refine lv_aload_n hx hb dX6_weightOf_50 rfl (lv_at hl 0 rfl) ?_
      refine x_get B hw (Tb := TX6) inX6 0 (by decide) rfl rfl 2 (by decide) u232 (fun _ h => h) rfl dX6_weightOf_51 ?_
      refine x_get B hw (Tb := TX1) inX1 14 (by decide) rfl rfl 2 (by decide) u108 (fun _ h => h) rfl dX6_weightOf_54 ?_
      refine lv_iload hx hb dX6_weightOf_57 (lv_at hl 3 rfl) ?_
      refine x_iald B hw 17 (by decide) rfl dX6_weightOf_59 hf (fun v4 hf => ?_)
      refine lv_iload_n hx hb dX6_weightOf_60 rfl (lv_at hl 1 rfl) ?_
      obtain ⟨v6, S5, hc, hf⟩ := x_bd_some hf
      refine x_callV B ExC_ok hw 19 (by decide) rfl rfl (As := [.int v4, .int x2]) (rest := [.int x3]) (st1 := [.int v6, .int x3]) (jSuppers_thousandths_ok hc) u527 u528 u529 u42 u530 hdX3_thousandths rfl ⟨Nat.le_of_ble_eq_true rfl, Nat.le_of_ble_eq_true rfl⟩ ⟨rfl, rfl⟩ hl.1 (Nat.le_of_ble_eq_true rfl) dX6_weightOf_61 (fun H locs hw => ?_) rfl rfl
      refine lv_iadd hx hb dX6_weightOf_64 ?_
      refine x_leti hf (fun v7 hf => ?_)
      refine lv_istore_n (lv' := [(3, .int v7), (0, .ref (q 0)), (2, .int x2), (4, .int x4)]) hx hb dX6_weightOf_65 rfl hl (by decide) rfl (fun ls hl => ?_)
      refine lv_iinc (v := x4 + 1) (lv' := [(4, .int (x4 + 1)), (3, .int v7), (0, .ref (q 0)), (2, .int x2)]) hx hb dX6_weightOf_66 hl (k := 3) rfl xi_1 (by decide) rfl (fun ls hl => ?_)
      refine lv_goto (tgt := 17) hx hb dX6_weightOf_69 (by decide) ?_
      exact hK17 x2 v7 (x4 + 1) S5 _ _ _ hf hw (lv_sub hl [2, 3, 1, 0] rfl)

theorem jSmoke_weightOf_h17_ok (B : XB p s m args meth c A cX6_weightOf 5 (some .int) RX6) {SF : St} {r : Int32} : ∀ (n : Nat) (x2 : Int32) (x3 : Int32) (x4 : Int32) (S : St) (H : Heap) (locs : List Loc) (ls : Array Slot), jSmoke_weightOf_h17 n x2 x3 x4 S = some (r, SF) → Xw D 40 (cellC T q) q T (ExC aK aV) A s S H locs → lv_has ls 5 [(0, .ref (q 0)), (2, .int x2), (3, .int x3), (4, .int x4)] → XG p l e ({ frames := 2, cells := 0, slots := 0, locals := 45 }) s m args below meth c D 40 (cellC T q) q T A SF (some (.int r)) H locs 17 ls [] := by
  intro n
  induction n with
  | zero =>
    intro x2 x3 x4 S H locs ls hf hw hl
    rw [jSmoke_weightOf_h17] at hf
    cases hf
  | succ n ih =>
    intro x2 x3 x4 S H locs ls hf hw hl
    rw [jSmoke_weightOf_h17] at hf
    exact jSmoke_weightOf_b17_ok B (jSmoke_weightOf_h17 n) ih x2 x3 x4 S hf hw hl

set_option maxHeartbeats 4000000 in
theorem jSmoke_weightOf_b0_ok (B : XB p s m args meth c A cX6_weightOf 5 (some .int) RX6) {SF : St} {r : Int32}  (x1 : Int32) (x2 : Int32) (S : St) {H : Heap} {locs : List Loc} {ls : Array Slot} (hf : jSmoke_weightOf x1 x2 S = some (r, SF)) (hw : Xw D 40 (cellC T q) q T (ExC aK aV) A s S H locs) (hl : lv_has ls 5 [(0, .ref (q 0)), (1, .int x1), (2, .int x2)]) : XG p l e ({ frames := 2, cells := 0, slots := 0, locals := 45 }) s m args below meth c D 40 (cellC T q) q T A SF (some (.int r)) H locs 0 ls [] := by
  unfold jSmoke_weightOf at hf
  obtain ⟨hx, hb, hr, hml, hown, hts, hlk, hA⟩ := id B
  refine lv_aload_n hx hb dX6_weightOf_0 rfl (lv_at hl 0 rfl) ?_
  refine x_get B hw (Tb := TX6) inX6 0 (by decide) rfl rfl 3 (by decide) u233 (fun _ h => h) rfl dX6_weightOf_1 ?_
  refine lv_iload_n hx hb dX6_weightOf_4 rfl (lv_at hl 1 rfl) ?_
  refine lv_aload_n hx hb dX6_weightOf_5 rfl (lv_at hl 0 rfl) ?_
  refine x_get B hw (Tb := TX6) inX6 0 (by decide) rfl rfl 8 (by decide) u238 (fun _ h => h) rfl dX6_weightOf_6 ?_
  obtain ⟨S1, hc, hf⟩ := x_bv_some hf
  refine x_callV B ExC_ok hw 19 (by decide) rfl rfl (As := [.int x1, .ref (q 39)]) (rest := []) (st1 := []) (jSuppers_fill_39_ok hc) u431 u432 u433 u42 u434 hdX3_fill rfl ⟨Nat.le_of_ble_eq_true rfl, Nat.le_of_ble_eq_true rfl⟩ ⟨rfl, rfl⟩ hl.1 (Nat.le_of_ble_eq_true rfl) dX6_weightOf_9 (fun H locs hw => ?_) rfl rfl
  refine lv_iconst (v := 0) hx hb dX6_weightOf_12 (by decide) ?_
  refine lv_istore_n (lv' := [(3, .int 0), (0, .ref (q 0)), (1, .int x1), (2, .int x2)]) hx hb dX6_weightOf_13 rfl hl (by decide) rfl (fun ls hl => ?_)
  refine lv_iconst (v := 0) hx hb dX6_weightOf_14 (by decide) ?_
  refine lv_istore (lv' := [(4, .int 0), (3, .int 0), (0, .ref (q 0)), (1, .int x1), (2, .int x2)]) hx hb dX6_weightOf_15 hl (by decide) rfl (fun ls hl => ?_)
  exact jSmoke_weightOf_h17_ok B FU x2 0 0 S1 _ _ _ hf hw (lv_sub hl [2, 4, 1, 0] rfl)

set_option maxHeartbeats 4000000 in
theorem jSmoke_weightOf_ok {x1 : Int32} {x2 : Int32} {S SF : St} {r : Int32} (hf : jSmoke_weightOf x1 x2 S = some (r, SF)) : XMet l D 40 (cellC T q) q T (ExC aK aV) yX6_weightOf cX6_weightOf 5 (some .int) ({ frames := 2, cells := 0, slots := 0, locals := 45 }) [.ref (q 0), .int x1, .int x2] S (some (.int r)) SF := by
  refine x_enter (own := RX6) (by decide +kernel) rfl (Nat.le_of_ble_eq_true rfl) (fun p e s m below meth c A B ls hw hl0 => ?_)
  have hl : lv_has ls 5 [(0, .ref (q 0)), (1, .int x1), (2, .int x2)] := hl0
  exact jSmoke_weightOf_b0_ok B x1 x2 S hf hw hl

set_option maxHeartbeats 4000000 in
theorem jSmoke_who_b35_ok (B : XB p s m args meth c A cX6_who 6 (some .int) RX6) {SF : St} {r : Int32} (K35 : Int32 → Int32 → Int32 → Int32 → Int32 → St → Option (Int32 × St)) (hK35 : ∀ (x1 : Int32) (x2 : Int32) (x3 : Int32) (x4 : Int32) (x5 : Int32) (S : St) (H : Heap) (locs : List Loc) (ls : Array Slot), K35 x1 x2 x3 x4 x5 S = some (r, SF) → Xw D 40 (cellC T q) q T (ExC aK aV) A s S H locs → lv_has ls 6 [(0, .ref (q 0)), (1, .int x1), (2, .int x2), (3, .int x3), (4, .int x4), (5, .int x5)] → XG p l e ({ frames := 3, cells := 0, slots := 0, locals := 69 }) s m args below meth c D 40 (cellC T q) q T A SF (some (.int r)) H locs 35 ls [])  (x1 : Int32) (x2 : Int32) (x3 : Int32) (x4 : Int32) (x5 : Int32) (S : St) {H : Heap} {locs : List Loc} {ls : Array Slot} (hf : jSmoke_who_b35 K35 x1 x2 x3 x4 x5 S = some (r, SF)) (hw : Xw D 40 (cellC T q) q T (ExC aK aV) A s S H locs) (hl : lv_has ls 6 [(0, .ref (q 0)), (1, .int x1), (2, .int x2), (3, .int x3), (4, .int x4), (5, .int x5)]) : XG p l e ({ frames := 3, cells := 0, slots := 0, locals := 69 }) s m args below meth c D 40 (cellC T q) q T A SF (some (.int r)) H locs 35 ls [] := by
  unfold jSmoke_who_b35 at hf
  obtain ⟨hx, hb, hr, hml, hown, hts, hlk, hA⟩ := id B
  refine lv_iload hx hb dX6_who_35 (lv_at hl 5 rfl) ?_
  refine lv_aload_n hx hb dX6_who_37 rfl (lv_at hl 0 rfl) ?_
  refine x_get B hw (Tb := TX6) inX6 0 (by decide) rfl rfl 3 (by decide) u233 (fun _ h => h) rfl dX6_who_38 ?_
  refine x_get B hw (Tb := TX3) inX3 19 (by decide) rfl rfl 3 (by decide) u140 (fun _ h => h) rfl dX6_who_41 ?_
  refine lv_icmp_ge (tgt := 65) hx hb dX6_who_44 (by decide) (fun hc => ?_) (fun hc => ?_)
  · have hf := x_pos hc hf
    refine lv_iload hx hb dX6_who_65 (lv_at hl 4 rfl) ?_
    refine lv_if_ne (tgt := 73) hx hb dX6_who_67 (by decide) (fun hc => ?_) (fun hc => ?_)
    · have hf := x_neg hc hf
      refine lv_aload_n hx hb dX6_who_73 rfl (lv_at hl 0 rfl) ?_
      refine lv_iload_n hx hb dX6_who_74 rfl (lv_at hl 2 rfl) ?_
      refine lv_iload_n hx hb dX6_who_75 rfl (lv_at hl 1 rfl) ?_
      obtain ⟨v6, S5, hc, hf⟩ := x_bd_some hf
      refine x_callV B ExC_ok hw 0 (by decide) rfl rfl (As := [.int x2, .int x1]) (rest := []) (st1 := [.int v6]) (jSmoke_weightOf_ok hc) u568 u570 u8 u38 u571 hdX6_weightOf rfl ⟨Nat.le_of_ble_eq_true rfl, Nat.le_of_ble_eq_true rfl⟩ ⟨rfl, rfl⟩ hl.1 (Nat.le_of_ble_eq_true rfl) dX6_who_76 (fun H locs hw => ?_) rfl rfl
      refine lv_i2l (v := Int32.toInt64 v6) hx hb dX6_who_79 rfl ?_
      refine lv_iload hx hb dX6_who_80 (lv_at hl 4 rfl) ?_
      refine lv_i2l (v := Int32.toInt64 x4) hx hb dX6_who_82 rfl ?_
      refine lv_iload_n hx hb dX6_who_83 rfl (lv_at hl 3 rfl) ?_
      obtain ⟨v8, S7, hc, hf⟩ := x_bd_some hf
      refine x_callS B ExC_ok hw (As := [.long (Int32.toInt64 v6), .long (Int32.toInt64 x4), .int x3]) (rest := []) (st1 := [.long v8]) (jSmoke_leastTerms_ok hc) u548 u549 u38 u550 hdX6_leastTerms rfl ⟨Nat.le_of_ble_eq_true rfl, Nat.le_of_ble_eq_true rfl⟩ ⟨rfl, rfl⟩ hl.1 (Nat.le_of_ble_eq_true rfl) dX6_who_84 (fun H locs hw => ?_) rfl rfl
      refine lv_l2i (v := Int64.toInt32 v8) hx hb dX6_who_87 rfl ?_
      exact x_iret B hw hf dX6_who_88
    · have hf := x_pos hc hf
      refine lv_bipush (v := (-2)) hx hb dX6_who_70 (by decide) ?_
      exact x_iret B hw hf dX6_who_72
  · have hf := x_neg hc hf
    refine lv_iload hx hb dX6_who_47 (lv_at hl 4 rfl) ?_
    refine lv_aload_n hx hb dX6_who_49 rfl (lv_at hl 0 rfl) ?_
    refine lv_iload hx hb dX6_who_50 (lv_at hl 5 rfl) ?_
    refine lv_iload_n hx hb dX6_who_52 rfl (lv_at hl 1 rfl) ?_
    obtain ⟨v10, S9, hc, hf⟩ := x_bd_some hf
    refine x_callV B ExC_ok hw 0 (by decide) rfl rfl (As := [.int x5, .int x1]) (rest := [.int x4]) (st1 := [.int v10, .int x4]) (jSmoke_weightOf_ok hc) u568 u570 u8 u38 u571 hdX6_weightOf rfl ⟨Nat.le_of_ble_eq_true rfl, Nat.le_of_ble_eq_true rfl⟩ ⟨rfl, rfl⟩ hl.1 (Nat.le_of_ble_eq_true rfl) dX6_who_53 (fun H locs hw => ?_) rfl rfl
    refine lv_iadd hx hb dX6_who_56 ?_
    refine x_leti hf (fun v11 hf => ?_)
    refine lv_istore (lv' := [(4, .int v11), (0, .ref (q 0)), (1, .int x1), (2, .int x2), (3, .int x3), (5, .int x5)]) hx hb dX6_who_57 hl (by decide) rfl (fun ls hl => ?_)
    refine lv_iinc (v := x5 + 1) (lv' := [(5, .int (x5 + 1)), (4, .int v11), (0, .ref (q 0)), (1, .int x1), (2, .int x2), (3, .int x3)]) hx hb dX6_who_59 hl (k := 5) rfl xi_1 (by decide) rfl (fun ls hl => ?_)
    refine lv_goto (tgt := 35) hx hb dX6_who_62 (by decide) ?_
    exact hK35 x1 x2 x3 v11 (x5 + 1) S9 _ _ _ hf hw (lv_sub hl [2, 3, 4, 5, 1, 0] rfl)

theorem jSmoke_who_h35_ok (B : XB p s m args meth c A cX6_who 6 (some .int) RX6) {SF : St} {r : Int32} : ∀ (n : Nat) (x1 : Int32) (x2 : Int32) (x3 : Int32) (x4 : Int32) (x5 : Int32) (S : St) (H : Heap) (locs : List Loc) (ls : Array Slot), jSmoke_who_h35 n x1 x2 x3 x4 x5 S = some (r, SF) → Xw D 40 (cellC T q) q T (ExC aK aV) A s S H locs → lv_has ls 6 [(0, .ref (q 0)), (1, .int x1), (2, .int x2), (3, .int x3), (4, .int x4), (5, .int x5)] → XG p l e ({ frames := 3, cells := 0, slots := 0, locals := 69 }) s m args below meth c D 40 (cellC T q) q T A SF (some (.int r)) H locs 35 ls [] := by
  intro n
  induction n with
  | zero =>
    intro x1 x2 x3 x4 x5 S H locs ls hf hw hl
    rw [jSmoke_who_h35] at hf
    cases hf
  | succ n ih =>
    intro x1 x2 x3 x4 x5 S H locs ls hf hw hl
    rw [jSmoke_who_h35] at hf
    exact jSmoke_who_b35_ok B (jSmoke_who_h35 n) ih x1 x2 x3 x4 x5 S hf hw hl

set_option maxHeartbeats 4000000 in
theorem jSmoke_who_b0_ok (B : XB p s m args meth c A cX6_who 6 (some .int) RX6) {SF : St} {r : Int32}  (x1 : Int32) (x2 : Int32) (x3 : Int32) (S : St) {H : Heap} {locs : List Loc} {ls : Array Slot} (hf : jSmoke_who x1 x2 x3 S = some (r, SF)) (hw : Xw D 40 (cellC T q) q T (ExC aK aV) A s S H locs) (hl : lv_has ls 6 [(0, .ref (q 0)), (1, .int x1), (2, .int x2), (3, .int x3)]) : XG p l e ({ frames := 3, cells := 0, slots := 0, locals := 69 }) s m args below meth c D 40 (cellC T q) q T A SF (some (.int r)) H locs 0 ls [] := by
  unfold jSmoke_who at hf
  obtain ⟨hx, hb, hr, hml, hown, hts, hlk, hA⟩ := id B
  refine lv_iload_n hx hb dX6_who_0 rfl (lv_at hl 1 rfl) ?_
  obtain ⟨v2, S1, hc, hf⟩ := x_bd_some hf
  refine x_callS B ExC_ok hw (As := [.int x1]) (rest := []) (st1 := [.int v2]) (jSmoke_isSmoke_ok hc) u524 u525 u38 u526 hdX6_isSmoke rfl ⟨Nat.le_of_ble_eq_true rfl, Nat.le_of_ble_eq_true rfl⟩ ⟨rfl, rfl⟩ hl.1 (Nat.le_of_ble_eq_true rfl) dX6_who_1 (fun H locs hw => ?_) rfl rfl
  refine lv_if_eq (tgt := 27) hx hb dX6_who_4 (by decide) (fun hc => ?_) (fun hc => ?_)
  · have hf := x_pos hc hf
    refine lv_iconst (v := (-1)) hx hb dX6_who_27 (by decide) ?_
    exact x_iret B hw hf dX6_who_28
  · have hf := x_neg hc hf
    refine lv_aload_n hx hb dX6_who_7 rfl (lv_at hl 0 rfl) ?_
    refine x_get B hw (Tb := TX6) inX6 0 (by decide) rfl rfl 3 (by decide) u233 (fun _ h => h) rfl dX6_who_8 ?_
    refine lv_iload_n hx hb dX6_who_11 rfl (lv_at hl 2 rfl) ?_
    obtain ⟨v4, S3, hc, hf⟩ := x_bd_some hf
    refine x_callV B ExC_ok hw 19 (by decide) rfl rfl (As := [.int x2]) (rest := []) (st1 := [.int v4]) (jSuppers_hasHouse_ok hc) u398 u399 u400 u42 u401 hdX3_hasHouse rfl ⟨Nat.le_of_ble_eq_true rfl, Nat.le_of_ble_eq_true rfl⟩ ⟨rfl, rfl⟩ hl.1 (Nat.le_of_ble_eq_true rfl) dX6_who_12 (fun H locs hw => ?_) rfl rfl
    refine lv_if_eq (tgt := 27) hx hb dX6_who_15 (by decide) (fun hc => ?_) (fun hc => ?_)
    · have hf := x_pos hc hf
      refine lv_iconst (v := (-1)) hx hb dX6_who_27 (by decide) ?_
      exact x_iret B hw hf dX6_who_28
    · have hf := x_neg hc hf
      refine lv_iload_n hx hb dX6_who_18 rfl (lv_at hl 3 rfl) ?_
      refine lv_if_lt (tgt := 27) hx hb dX6_who_19 (by decide) (fun hc => ?_) (fun hc => ?_)
      · have hf := x_pos hc hf
        refine lv_iconst (v := (-1)) hx hb dX6_who_27 (by decide) ?_
        exact x_iret B hw hf dX6_who_28
      · have hf := x_neg hc hf
        refine lv_iload_n hx hb dX6_who_22 rfl (lv_at hl 3 rfl) ?_
        refine lv_iconst (v := 1) hx hb dX6_who_23 (by decide) ?_
        refine lv_icmp_le (tgt := 29) hx hb dX6_who_24 (by decide) (fun hc => ?_) (fun hc => ?_)
        · have hf := x_pos hc hf
          refine lv_iconst (v := 0) hx hb dX6_who_29 (by decide) ?_
          refine lv_istore (lv' := [(4, .int 0), (0, .ref (q 0)), (1, .int x1), (2, .int x2), (3, .int x3)]) hx hb dX6_who_30 hl (by decide) rfl (fun ls hl => ?_)
          refine lv_iconst (v := 0) hx hb dX6_who_32 (by decide) ?_
          refine lv_istore (lv' := [(5, .int 0), (4, .int 0), (0, .ref (q 0)), (1, .int x1), (2, .int x2), (3, .int x3)]) hx hb dX6_who_33 hl (by decide) rfl (fun ls hl => ?_)
          exact jSmoke_who_h35_ok B FU x1 x2 x3 0 0 S3 _ _ _ hf hw (lv_sub hl [2, 3, 4, 5, 1, 0] rfl)
        · have hf := x_neg hc hf
          refine lv_iconst (v := (-1)) hx hb dX6_who_27 (by decide) ?_
          exact x_iret B hw hf dX6_who_28

set_option maxHeartbeats 4000000 in
theorem jSmoke_who_ok {x1 : Int32} {x2 : Int32} {x3 : Int32} {S SF : St} {r : Int32} (hf : jSmoke_who x1 x2 x3 S = some (r, SF)) : XMet l D 40 (cellC T q) q T (ExC aK aV) yX6_who cX6_who 6 (some .int) ({ frames := 3, cells := 0, slots := 0, locals := 69 }) [.ref (q 0), .int x1, .int x2, .int x3] S (some (.int r)) SF := by
  refine x_enter (own := RX6) (by decide +kernel) rfl (Nat.le_of_ble_eq_true rfl) (fun p e s m below meth c A B ls hw hl0 => ?_)
  have hl : lv_has ls 6 [(0, .ref (q 0)), (1, .int x1), (2, .int x2), (3, .int x3)] := hl0
  exact jSmoke_who_b0_ok B x1 x2 x3 S hf hw hl

set_option maxHeartbeats 4000000 in
theorem jMenu_leanest_b4_ok (B : XB p s m args meth c A cX1_leanest 4 (some .int) RX1) {SF : St} {r : Int32} (K4 : Int32 → Int32 → St → Option (Int32 × St)) (hK4 : ∀ (x2 : Int32) (x3 : Int32) (S : St) (H : Heap) (locs : List Loc) (ls : Array Slot), K4 x2 x3 S = some (r, SF) → Xw D 40 (cellC T q) q T (ExC aK aV) A s S H locs → lv_has ls 4 [(0, .ref (q 14)), (1, .ref (q 39)), (2, .int x2), (3, .int x3)] → XG p l e ({ frames := 2, cells := 0, slots := 0, locals := 45 }) s m args below meth c D 40 (cellC T q) q T A SF (some (.int r)) H locs 4 ls [])  (x2 : Int32) (x3 : Int32) (S : St) {H : Heap} {locs : List Loc} {ls : Array Slot} (hf : jMenu_leanest_b4 K4 x2 x3 S = some (r, SF)) (hw : Xw D 40 (cellC T q) q T (ExC aK aV) A s S H locs) (hl : lv_has ls 4 [(0, .ref (q 14)), (1, .ref (q 39)), (2, .int x2), (3, .int x3)]) : XG p l e ({ frames := 2, cells := 0, slots := 0, locals := 45 }) s m args below meth c D 40 (cellC T q) q T A SF (some (.int r)) H locs 4 ls [] := by
  unfold jMenu_leanest_b4 at hf
  obtain ⟨hx, hb, hr, hml, hown, hts, hlk, hA⟩ := id B
  refine lv_iload_n hx hb dX1_leanest_4 rfl (lv_at hl 3 rfl) ?_
  refine lv_aload_n hx hb dX1_leanest_5 rfl (lv_at hl 0 rfl) ?_
  refine x_get B hw (Tb := TX1) inX1 14 (by decide) rfl rfl 4 (by decide) u112 (fun _ h => h) rfl dX1_leanest_6 ?_
  refine lv_icmp_ge (tgt := 49) hx hb dX1_leanest_9 (by decide) (fun hc => ?_) (fun hc => ?_)
  · have hf := x_pos hc hf
    refine lv_iload_n hx hb dX1_leanest_49 rfl (lv_at hl 2 rfl) ?_
    exact x_iret B hw hf dX1_leanest_50
  · have hf := x_neg hc hf
    refine lv_aload_n hx hb dX1_leanest_12 rfl (lv_at hl 0 rfl) ?_
    refine lv_iload_n hx hb dX1_leanest_13 rfl (lv_at hl 3 rfl) ?_
    refine lv_aload_n hx hb dX1_leanest_14 rfl (lv_at hl 1 rfl) ?_
    obtain ⟨v2, S1, hc, hf⟩ := x_bd_some hf
    refine x_callV B ExC_ok hw 14 (by decide) rfl rfl (As := [.int x3, .ref (q 39)]) (rest := []) (st1 := [.int v2]) (jMenu_fits_39_ok hc) u580 u436 u437 u41 u438 hdX1_fits rfl ⟨Nat.le_of_ble_eq_true rfl, Nat.le_of_ble_eq_true rfl⟩ ⟨rfl, rfl⟩ hl.1 (Nat.le_of_ble_eq_true rfl) dX1_leanest_15 (fun H locs hw => ?_) rfl rfl
    refine lv_if_eq (tgt := 43) hx hb dX1_leanest_18 (by decide) (fun hc => ?_) (fun hc => ?_)
    · have hf := x_pos hc hf
      refine lv_iinc (v := x3 + 1) (lv' := [(3, .int (x3 + 1)), (0, .ref (q 14)), (1, .ref (q 39)), (2, .int x2)]) hx hb dX1_leanest_43 hl (k := 3) rfl xi_1 (by decide) rfl (fun ls hl => ?_)
      refine lv_goto (tgt := 4) hx hb dX1_leanest_46 (by decide) ?_
      exact hK4 x2 (x3 + 1) S1 _ _ _ hf hw (lv_sub hl [1, 2, 3, 0] rfl)
    · have hf := x_neg hc hf
      refine lv_iload_n hx hb dX1_leanest_21 rfl (lv_at hl 2 rfl) ?_
      refine lv_iconst (v := (-1)) hx hb dX1_leanest_22 (by decide) ?_
      refine lv_icmp_eq (tgt := 41) hx hb dX1_leanest_23 (by decide) (fun hc => ?_) (fun hc => ?_)
      · have hf := x_pos hc hf
        refine lv_iload_n hx hb dX1_leanest_41 rfl (lv_at hl 3 rfl) ?_
        refine lv_istore_n (lv' := [(2, .int x3), (0, .ref (q 14)), (1, .ref (q 39)), (3, .int x3)]) hx hb dX1_leanest_42 rfl hl (by decide) rfl (fun ls hl => ?_)
        refine lv_iinc (v := x3 + 1) (lv' := [(3, .int (x3 + 1)), (2, .int x3), (0, .ref (q 14)), (1, .ref (q 39))]) hx hb dX1_leanest_43 hl (k := 3) rfl xi_1 (by decide) rfl (fun ls hl => ?_)
        refine lv_goto (tgt := 4) hx hb dX1_leanest_46 (by decide) ?_
        exact hK4 x3 (x3 + 1) S1 _ _ _ hf hw (lv_sub hl [2, 3, 1, 0] rfl)
      · have hf := x_neg hc hf
        refine lv_aload_n hx hb dX1_leanest_26 rfl (lv_at hl 0 rfl) ?_
        refine x_get B hw (Tb := TX1) inX1 14 (by decide) rfl rfl 1 (by decide) u103 (fun _ h => h) rfl dX1_leanest_27 ?_
        refine lv_iload_n hx hb dX1_leanest_30 rfl (lv_at hl 3 rfl) ?_
        refine x_iald B hw 16 (by decide) rfl dX1_leanest_31 hf (fun v3 hf => ?_)
        refine lv_aload_n hx hb dX1_leanest_32 rfl (lv_at hl 0 rfl) ?_
        refine x_get B hw (Tb := TX1) inX1 14 (by decide) rfl rfl 1 (by decide) u103 (fun _ h => h) rfl dX1_leanest_33 ?_
        refine lv_iload_n hx hb dX1_leanest_36 rfl (lv_at hl 2 rfl) ?_
        refine x_iald B hw 16 (by decide) rfl dX1_leanest_37 hf (fun v4 hf => ?_)
        refine lv_icmp_ge (tgt := 43) hx hb dX1_leanest_38 (by decide) (fun hc => ?_) (fun hc => ?_)
        · have hf := x_pos hc hf
          refine lv_iinc (v := x3 + 1) (lv' := [(3, .int (x3 + 1)), (0, .ref (q 14)), (1, .ref (q 39)), (2, .int x2)]) hx hb dX1_leanest_43 hl (k := 3) rfl xi_1 (by decide) rfl (fun ls hl => ?_)
          refine lv_goto (tgt := 4) hx hb dX1_leanest_46 (by decide) ?_
          exact hK4 x2 (x3 + 1) S1 _ _ _ hf hw (lv_sub hl [1, 2, 3, 0] rfl)
        · have hf := x_neg hc hf
          refine lv_iload_n hx hb dX1_leanest_41 rfl (lv_at hl 3 rfl) ?_
          refine lv_istore_n (lv' := [(2, .int x3), (0, .ref (q 14)), (1, .ref (q 39)), (3, .int x3)]) hx hb dX1_leanest_42 rfl hl (by decide) rfl (fun ls hl => ?_)
          refine lv_iinc (v := x3 + 1) (lv' := [(3, .int (x3 + 1)), (2, .int x3), (0, .ref (q 14)), (1, .ref (q 39))]) hx hb dX1_leanest_43 hl (k := 3) rfl xi_1 (by decide) rfl (fun ls hl => ?_)
          refine lv_goto (tgt := 4) hx hb dX1_leanest_46 (by decide) ?_
          exact hK4 x3 (x3 + 1) S1 _ _ _ hf hw (lv_sub hl [2, 3, 1, 0] rfl)

theorem jMenu_leanest_h4_ok (B : XB p s m args meth c A cX1_leanest 4 (some .int) RX1) {SF : St} {r : Int32} : ∀ (n : Nat) (x2 : Int32) (x3 : Int32) (S : St) (H : Heap) (locs : List Loc) (ls : Array Slot), jMenu_leanest_h4 n x2 x3 S = some (r, SF) → Xw D 40 (cellC T q) q T (ExC aK aV) A s S H locs → lv_has ls 4 [(0, .ref (q 14)), (1, .ref (q 39)), (2, .int x2), (3, .int x3)] → XG p l e ({ frames := 2, cells := 0, slots := 0, locals := 45 }) s m args below meth c D 40 (cellC T q) q T A SF (some (.int r)) H locs 4 ls [] := by
  intro n
  induction n with
  | zero =>
    intro x2 x3 S H locs ls hf hw hl
    rw [jMenu_leanest_h4] at hf
    cases hf
  | succ n ih =>
    intro x2 x3 S H locs ls hf hw hl
    rw [jMenu_leanest_h4] at hf
    exact jMenu_leanest_b4_ok B (jMenu_leanest_h4 n) ih x2 x3 S hf hw hl

set_option maxHeartbeats 4000000 in
theorem jMenu_leanest_b0_ok (B : XB p s m args meth c A cX1_leanest 4 (some .int) RX1) {SF : St} {r : Int32}  (S : St) {H : Heap} {locs : List Loc} {ls : Array Slot} (hf : jMenu_leanest S = some (r, SF)) (hw : Xw D 40 (cellC T q) q T (ExC aK aV) A s S H locs) (hl : lv_has ls 4 [(0, .ref (q 14)), (1, .ref (q 39))]) : XG p l e ({ frames := 2, cells := 0, slots := 0, locals := 45 }) s m args below meth c D 40 (cellC T q) q T A SF (some (.int r)) H locs 0 ls [] := by
  unfold jMenu_leanest at hf
  obtain ⟨hx, hb, hr, hml, hown, hts, hlk, hA⟩ := id B
  refine lv_iconst (v := (-1)) hx hb dX1_leanest_0 (by decide) ?_
  refine lv_istore_n (lv' := [(2, .int (-1)), (0, .ref (q 14)), (1, .ref (q 39))]) hx hb dX1_leanest_1 rfl hl (by decide) rfl (fun ls hl => ?_)
  refine lv_iconst (v := 0) hx hb dX1_leanest_2 (by decide) ?_
  refine lv_istore_n (lv' := [(3, .int 0), (2, .int (-1)), (0, .ref (q 14)), (1, .ref (q 39))]) hx hb dX1_leanest_3 rfl hl (by decide) rfl (fun ls hl => ?_)
  exact jMenu_leanest_h4_ok B FU (-1) 0 S _ _ _ hf hw (lv_sub hl [2, 3, 1, 0] rfl)

set_option maxHeartbeats 4000000 in
theorem jMenu_leanest_ok {S SF : St} {r : Int32} (hf : jMenu_leanest S = some (r, SF)) : XMet l D 40 (cellC T q) q T (ExC aK aV) yX1_leanest cX1_leanest 4 (some .int) ({ frames := 2, cells := 0, slots := 0, locals := 45 }) [.ref (q 14), .ref (q 39)] S (some (.int r)) SF := by
  refine x_enter (own := RX1) (by decide +kernel) rfl (Nat.le_of_ble_eq_true rfl) (fun p e s m below meth c A B ls hw hl0 => ?_)
  have hl : lv_has ls 4 [(0, .ref (q 14)), (1, .ref (q 39))] := hl0
  exact jMenu_leanest_b0_ok B S hf hw hl

set_option maxHeartbeats 4000000 in
theorem jMenu_take_39_b2_ok (B : XB p s m args meth c A cX1_take 4 none RX1) {SF : St} (K2 : Int32 → Int32 → St → Option (St)) (hK2 : ∀ (x1 : Int32) (x3 : Int32) (S : St) (H : Heap) (locs : List Loc) (ls : Array Slot), K2 x1 x3 S = some SF → Xw D 40 (cellC T q) q T (ExC aK aV) A s S H locs → lv_has ls 4 [(0, .ref (q 14)), (1, .int x1), (2, .ref (q 39)), (3, .int x3)] → XG p l e ({ frames := 1, cells := 0, slots := 0, locals := 22 }) s m args below meth c D 40 (cellC T q) q T A SF none H locs 2 ls [])  (x1 : Int32) (x3 : Int32) (S : St) {H : Heap} {locs : List Loc} {ls : Array Slot} (hf : jMenu_take_39_b2 K2 x1 x3 S = some SF) (hw : Xw D 40 (cellC T q) q T (ExC aK aV) A s S H locs) (hl : lv_has ls 4 [(0, .ref (q 14)), (1, .int x1), (2, .ref (q 39)), (3, .int x3)]) : XG p l e ({ frames := 1, cells := 0, slots := 0, locals := 22 }) s m args below meth c D 40 (cellC T q) q T A SF none H locs 2 ls [] := by
  unfold jMenu_take_39_b2 at hf
  obtain ⟨hx, hb, hr, hml, hown, hts, hlk, hA⟩ := id B
  refine lv_iload_n hx hb dX1_take_2 rfl (lv_at hl 3 rfl) ?_
  refine lv_iconst (v := 5) hx hb dX1_take_3 (by decide) ?_
  refine lv_icmp_ge (tgt := 25) hx hb dX1_take_4 (by decide) (fun hc => ?_) (fun hc => ?_)
  · have hf := x_pos hc hf
    exact x_vret B hw hf dX1_take_25
  · have hf := x_neg hc hf
    refine lv_aload_n hx hb dX1_take_7 rfl (lv_at hl 2 rfl) ?_
    refine lv_iload_n hx hb dX1_take_8 rfl (lv_at hl 3 rfl) ?_
    refine lv_dup2_11 hx hb dX1_take_9 rfl rfl ?_
    refine x_iald B hw 39 (by decide) rfl dX1_take_10 hf (fun v1 hf => ?_)
    refine lv_aload_n hx hb dX1_take_11 rfl (lv_at hl 0 rfl) ?_
    refine lv_iload_n hx hb dX1_take_12 rfl (lv_at hl 1 rfl) ?_
    refine lv_iload_n hx hb dX1_take_13 rfl (lv_at hl 3 rfl) ?_
    obtain ⟨v3, S2, hc, hf⟩ := x_bd_some hf
    refine x_callV B ExC_ok hw 14 (by decide) rfl rfl (As := [.int x1, .int x3]) (rest := [.int v1, .int x3, .ref (q 39)]) (st1 := [.int v3, .int v1, .int x3, .ref (q 39)]) (jMenu_need_ok hc) u439 u420 u421 u41 u422 hdX1_need rfl ⟨Nat.le_of_ble_eq_true rfl, Nat.le_of_ble_eq_true rfl⟩ ⟨rfl, rfl⟩ hl.1 (Nat.le_of_ble_eq_true rfl) dX1_take_14 (fun H locs hw => ?_) rfl rfl
    refine lv_isub hx hb dX1_take_17 ?_
    refine x_iast B hw 39 (by decide) (fun _ _ => rfl) dX1_take_18 hf (fun S4 H locs hw hf => ?_)
    refine lv_iinc (v := x3 + 1) (lv' := [(3, .int (x3 + 1)), (0, .ref (q 14)), (1, .int x1), (2, .ref (q 39))]) hx hb dX1_take_19 hl (k := 3) rfl xi_1 (by decide) rfl (fun ls hl => ?_)
    refine lv_goto (tgt := 2) hx hb dX1_take_22 (by decide) ?_
    exact hK2 x1 (x3 + 1) S4 _ _ _ hf hw (lv_sub hl [1, 2, 3, 0] rfl)

theorem jMenu_take_39_h2_ok (B : XB p s m args meth c A cX1_take 4 none RX1) {SF : St} : ∀ (n : Nat) (x1 : Int32) (x3 : Int32) (S : St) (H : Heap) (locs : List Loc) (ls : Array Slot), jMenu_take_39_h2 n x1 x3 S = some SF → Xw D 40 (cellC T q) q T (ExC aK aV) A s S H locs → lv_has ls 4 [(0, .ref (q 14)), (1, .int x1), (2, .ref (q 39)), (3, .int x3)] → XG p l e ({ frames := 1, cells := 0, slots := 0, locals := 22 }) s m args below meth c D 40 (cellC T q) q T A SF none H locs 2 ls [] := by
  intro n
  induction n with
  | zero =>
    intro x1 x3 S H locs ls hf hw hl
    rw [jMenu_take_39_h2] at hf
    cases hf
  | succ n ih =>
    intro x1 x3 S H locs ls hf hw hl
    rw [jMenu_take_39_h2] at hf
    exact jMenu_take_39_b2_ok B (jMenu_take_39_h2 n) ih x1 x3 S hf hw hl

set_option maxHeartbeats 4000000 in
theorem jMenu_take_39_b0_ok (B : XB p s m args meth c A cX1_take 4 none RX1) {SF : St}  (x1 : Int32) (S : St) {H : Heap} {locs : List Loc} {ls : Array Slot} (hf : jMenu_take_39 x1 S = some SF) (hw : Xw D 40 (cellC T q) q T (ExC aK aV) A s S H locs) (hl : lv_has ls 4 [(0, .ref (q 14)), (1, .int x1), (2, .ref (q 39))]) : XG p l e ({ frames := 1, cells := 0, slots := 0, locals := 22 }) s m args below meth c D 40 (cellC T q) q T A SF none H locs 0 ls [] := by
  unfold jMenu_take_39 at hf
  obtain ⟨hx, hb, hr, hml, hown, hts, hlk, hA⟩ := id B
  refine lv_iconst (v := 0) hx hb dX1_take_0 (by decide) ?_
  refine lv_istore_n (lv' := [(3, .int 0), (0, .ref (q 14)), (1, .int x1), (2, .ref (q 39))]) hx hb dX1_take_1 rfl hl (by decide) rfl (fun ls hl => ?_)
  exact jMenu_take_39_h2_ok B FU x1 0 S _ _ _ hf hw (lv_sub hl [1, 2, 3, 0] rfl)

set_option maxHeartbeats 4000000 in
theorem jMenu_take_39_ok {x1 : Int32} {S SF : St} (hf : jMenu_take_39 x1 S = some SF) : XMet l D 40 (cellC T q) q T (ExC aK aV) yX1_take cX1_take 4 none ({ frames := 1, cells := 0, slots := 0, locals := 22 }) [.ref (q 14), .int x1, .ref (q 39)] S none SF := by
  refine x_enter (own := RX1) (by decide +kernel) rfl (Nat.le_of_ble_eq_true rfl) (fun p e s m below meth c A B ls hw hl0 => ?_)
  have hl : lv_has ls 4 [(0, .ref (q 14)), (1, .int x1), (2, .ref (q 39))] := hl0
  exact jMenu_take_39_b0_ok B x1 S hf hw hl

set_option maxHeartbeats 4000000 in
theorem jSmoke_days_b27_ok (B : XB p s m args meth c A cX6_days 4 (some .int) RX6) {SF : St} {r : Int32} (K27 : Int32 → St → Option (Int32 × St)) (hK27 : ∀ (x2 : Int32) (S : St) (H : Heap) (locs : List Loc) (ls : Array Slot), K27 x2 S = some (r, SF) → Xw D 40 (cellC T q) q T (ExC aK aV) A s S H locs → lv_has ls 4 [(0, .ref (q 0)), (2, .int x2)] → XG p l e ({ frames := 3, cells := 0, slots := 0, locals := 68 }) s m args below meth c D 40 (cellC T q) q T A SF (some (.int r)) H locs 27 ls [])  (x2 : Int32) (S : St) {H : Heap} {locs : List Loc} {ls : Array Slot} (hf : jSmoke_days_b27 K27 x2 S = some (r, SF)) (hw : Xw D 40 (cellC T q) q T (ExC aK aV) A s S H locs) (hl : lv_has ls 4 [(0, .ref (q 0)), (2, .int x2)]) : XG p l e ({ frames := 3, cells := 0, slots := 0, locals := 68 }) s m args below meth c D 40 (cellC T q) q T A SF (some (.int r)) H locs 27 ls [] := by
  unfold jSmoke_days_b27 at hf
  obtain ⟨hx, hb, hr, hml, hown, hts, hlk, hA⟩ := id B
  refine lv_iload_n hx hb dX6_days_27 rfl (lv_at hl 1 rfl) ?_
  refine lv_bipush (v := 30) hx hb dX6_days_28 (by decide) ?_
  refine lv_icmp_ge (tgt := 70) hx hb dX6_days_30 (by decide) (fun hc => ?_) (fun hc => ?_)
  · have hf := x_pos hc hf
    refine lv_bipush (v := 30) hx hb dX6_days_70 (by decide) ?_
    exact x_iret B hw hf dX6_days_72
  · have hf := x_neg hc hf
    refine lv_aload_n hx hb dX6_days_33 rfl (lv_at hl 0 rfl) ?_
    refine x_get B hw (Tb := TX6) inX6 0 (by decide) rfl rfl 2 (by decide) u232 (fun _ h => h) rfl dX6_days_34 ?_
    refine lv_aload_n hx hb dX6_days_37 rfl (lv_at hl 0 rfl) ?_
    refine x_get B hw (Tb := TX6) inX6 0 (by decide) rfl rfl 8 (by decide) u238 (fun _ h => h) rfl dX6_days_38 ?_
    obtain ⟨v5, S4, hc, hf⟩ := x_bd_some hf
    refine x_callV B ExC_ok hw 14 (by decide) rfl rfl (As := [.ref (q 39)]) (rest := []) (st1 := [.int v5]) (jMenu_leanest_ok hc) u576 u577 u578 u41 u579 hdX1_leanest rfl ⟨Nat.le_of_ble_eq_true rfl, Nat.le_of_ble_eq_true rfl⟩ ⟨rfl, rfl⟩ hl.1 (Nat.le_of_ble_eq_true rfl) dX6_days_41 (fun H locs hw => ?_) rfl rfl
    refine lv_istore_n (lv' := [(3, .int v5), (0, .ref (q 0)), (2, .int x2)]) hx hb dX6_days_44 rfl hl (by decide) rfl (fun ls hl => ?_)
    refine lv_iload_n hx hb dX6_days_45 rfl (lv_at hl 0 rfl) ?_
    refine lv_iconst (v := (-1)) hx hb dX6_days_46 (by decide) ?_
    refine lv_icmp_ne (tgt := 52) hx hb dX6_days_47 (by decide) (fun hc => ?_) (fun hc => ?_)
    · have hf := x_neg hc hf
      refine lv_aload_n hx hb dX6_days_52 rfl (lv_at hl 1 rfl) ?_
      refine x_get B hw (Tb := TX6) inX6 0 (by decide) rfl rfl 2 (by decide) u232 (fun _ h => h) rfl dX6_days_53 ?_
      refine lv_iload_n hx hb dX6_days_56 rfl (lv_at hl 0 rfl) ?_
      refine lv_aload_n hx hb dX6_days_57 rfl (lv_at hl 1 rfl) ?_
      refine x_get B hw (Tb := TX6) inX6 0 (by decide) rfl rfl 8 (by decide) u238 (fun _ h => h) rfl dX6_days_58 ?_
      obtain ⟨S6, hc, hf⟩ := x_bv_some hf
      refine x_callV B ExC_ok hw 14 (by decide) rfl rfl (As := [.int v5, .ref (q 39)]) (rest := []) (st1 := []) (jMenu_take_39_ok hc) u581 u498 u499 u41 u500 hdX1_take rfl ⟨Nat.le_of_ble_eq_true rfl, Nat.le_of_ble_eq_true rfl⟩ ⟨rfl, rfl⟩ hl.1 (Nat.le_of_ble_eq_true rfl) dX6_days_61 (fun H locs hw => ?_) rfl rfl
      refine lv_iinc (v := x2 + 1) (lv' := [(2, .int (x2 + 1)), (3, .int v5), (0, .ref (q 0))]) hx hb dX6_days_64 hl (k := 2) rfl xi_1 (by decide) rfl (fun ls hl => ?_)
      refine lv_goto (tgt := 27) hx hb dX6_days_67 (by decide) ?_
      exact hK27 (x2 + 1) S6 _ _ _ hf hw (lv_sub hl [2, 0] rfl)
    · have hf := x_pos hc hf
      refine lv_iload_n hx hb dX6_days_50 rfl (lv_at hl 2 rfl) ?_
      exact x_iret B hw hf dX6_days_51

theorem jSmoke_days_h27_ok (B : XB p s m args meth c A cX6_days 4 (some .int) RX6) {SF : St} {r : Int32} : ∀ (n : Nat) (x2 : Int32) (S : St) (H : Heap) (locs : List Loc) (ls : Array Slot), jSmoke_days_h27 n x2 S = some (r, SF) → Xw D 40 (cellC T q) q T (ExC aK aV) A s S H locs → lv_has ls 4 [(0, .ref (q 0)), (2, .int x2)] → XG p l e ({ frames := 3, cells := 0, slots := 0, locals := 68 }) s m args below meth c D 40 (cellC T q) q T A SF (some (.int r)) H locs 27 ls [] := by
  intro n
  induction n with
  | zero =>
    intro x2 S H locs ls hf hw hl
    rw [jSmoke_days_h27] at hf
    cases hf
  | succ n ih =>
    intro x2 S H locs ls hf hw hl
    rw [jSmoke_days_h27] at hf
    exact jSmoke_days_b27_ok B (jSmoke_days_h27 n) ih x2 S hf hw hl

set_option maxHeartbeats 4000000 in
theorem jSmoke_days_b0_ok (B : XB p s m args meth c A cX6_days 4 (some .int) RX6) {SF : St} {r : Int32}  (x1 : Int32) (S : St) {H : Heap} {locs : List Loc} {ls : Array Slot} (hf : jSmoke_days x1 S = some (r, SF)) (hw : Xw D 40 (cellC T q) q T (ExC aK aV) A s S H locs) (hl : lv_has ls 4 [(0, .ref (q 0)), (1, .int x1)]) : XG p l e ({ frames := 3, cells := 0, slots := 0, locals := 68 }) s m args below meth c D 40 (cellC T q) q T A SF (some (.int r)) H locs 0 ls [] := by
  unfold jSmoke_days at hf
  obtain ⟨hx, hb, hr, hml, hown, hts, hlk, hA⟩ := id B
  refine lv_aload_n hx hb dX6_days_0 rfl (lv_at hl 0 rfl) ?_
  refine x_get B hw (Tb := TX6) inX6 0 (by decide) rfl rfl 3 (by decide) u233 (fun _ h => h) rfl dX6_days_1 ?_
  refine lv_iload_n hx hb dX6_days_4 rfl (lv_at hl 1 rfl) ?_
  obtain ⟨v2, S1, hc, hf⟩ := x_bd_some hf
  refine x_callV B ExC_ok hw 19 (by decide) rfl rfl (As := [.int x1]) (rest := []) (st1 := [.int v2]) (jSuppers_hasHouse_ok hc) u398 u399 u400 u42 u401 hdX3_hasHouse rfl ⟨Nat.le_of_ble_eq_true rfl, Nat.le_of_ble_eq_true rfl⟩ ⟨rfl, rfl⟩ hl.1 (Nat.le_of_ble_eq_true rfl) dX6_days_5 (fun H locs hw => ?_) rfl rfl
  refine lv_if_ne (tgt := 13) hx hb dX6_days_8 (by decide) (fun hc => ?_) (fun hc => ?_)
  · have hf := x_neg hc hf
    refine lv_aload_n hx hb dX6_days_13 rfl (lv_at hl 0 rfl) ?_
    refine x_get B hw (Tb := TX6) inX6 0 (by decide) rfl rfl 3 (by decide) u233 (fun _ h => h) rfl dX6_days_14 ?_
    refine lv_iload_n hx hb dX6_days_17 rfl (lv_at hl 1 rfl) ?_
    refine lv_aload_n hx hb dX6_days_18 rfl (lv_at hl 0 rfl) ?_
    refine x_get B hw (Tb := TX6) inX6 0 (by decide) rfl rfl 8 (by decide) u238 (fun _ h => h) rfl dX6_days_19 ?_
    obtain ⟨S3, hc, hf⟩ := x_bv_some hf
    refine x_callV B ExC_ok hw 19 (by decide) rfl rfl (As := [.int x1, .ref (q 39)]) (rest := []) (st1 := []) (jSuppers_fill_39_ok hc) u431 u432 u433 u42 u434 hdX3_fill rfl ⟨Nat.le_of_ble_eq_true rfl, Nat.le_of_ble_eq_true rfl⟩ ⟨rfl, rfl⟩ hl.1 (Nat.le_of_ble_eq_true rfl) dX6_days_22 (fun H locs hw => ?_) rfl rfl
    refine lv_iconst (v := 0) hx hb dX6_days_25 (by decide) ?_
    refine lv_istore_n (lv' := [(2, .int 0), (0, .ref (q 0)), (1, .int x1)]) hx hb dX6_days_26 rfl hl (by decide) rfl (fun ls hl => ?_)
    exact jSmoke_days_h27_ok B FU 0 S3 _ _ _ hf hw (lv_sub hl [1, 0] rfl)
  · have hf := x_pos hc hf
    refine lv_iconst (v := (-1)) hx hb dX6_days_11 (by decide) ?_
    exact x_iret B hw hf dX6_days_12

set_option maxHeartbeats 4000000 in
theorem jSmoke_days_ok {x1 : Int32} {S SF : St} {r : Int32} (hf : jSmoke_days x1 S = some (r, SF)) : XMet l D 40 (cellC T q) q T (ExC aK aV) yX6_days cX6_days 4 (some .int) ({ frames := 3, cells := 0, slots := 0, locals := 68 }) [.ref (q 0), .int x1] S (some (.int r)) SF := by
  refine x_enter (own := RX6) (by decide +kernel) rfl (Nat.le_of_ble_eq_true rfl) (fun p e s m below meth c A B ls hw hl0 => ?_)
  have hl : lv_has ls 4 [(0, .ref (q 0)), (1, .int x1)] := hl0
  exact jSmoke_days_b0_ok B x1 S hf hw hl

set_option maxHeartbeats 4000000 in
theorem jMenu_holds_b0_ok (B : XB p s m args meth c A cX1_holds 2 (some .boolean) RX1) {SF : St} {r : Int32}  (x0 : Int32) (x1 : Int32) (S : St) {H : Heap} {locs : List Loc} {ls : Array Slot} (hf : jMenu_holds x0 x1 S = some (r, SF)) (hw : Xw D 40 (cellC T q) q T (ExC aK aV) A s S H locs) (hl : lv_has ls 2 [(0, .int x0), (1, .int x1)]) : XG p l e ({ frames := 0, cells := 0, slots := 0, locals := 0 }) s m args below meth c D 40 (cellC T q) q T A SF (some (.int r)) H locs 0 ls [] := by
  unfold jMenu_holds at hf
  obtain ⟨hx, hb, hr, hml, hown, hts, hlk, hA⟩ := id B
  refine lv_iload_n hx hb dX1_holds_0 rfl (lv_at hl 0 rfl) ?_
  refine lv_iload_n hx hb dX1_holds_1 rfl (lv_at hl 1 rfl) ?_
  refine lv_ishr hx hb dX1_holds_2 ?_
  refine lv_iconst (v := 1) hx hb dX1_holds_3 (by decide) ?_
  refine lv_iand hx hb dX1_holds_4 ?_
  refine lv_if_eq (tgt := 12) hx hb dX1_holds_5 (by decide) (fun hc => ?_) (fun hc => ?_)
  · have hf := x_pos hc hf
    refine lv_iconst (v := 0) hx hb dX1_holds_12 (by decide) ?_
    exact x_zret B hw hf dX1_holds_13
  · have hf := x_neg hc hf
    refine lv_iconst (v := 1) hx hb dX1_holds_8 (by decide) ?_
    refine lv_goto (tgt := 13) hx hb dX1_holds_9 (by decide) ?_
    exact x_zret B hw hf dX1_holds_13

set_option maxHeartbeats 4000000 in
theorem jMenu_holds_ok {x0 : Int32} {x1 : Int32} {S SF : St} {r : Int32} (hf : jMenu_holds x0 x1 S = some (r, SF)) : XMet l D 40 (cellC T q) q T (ExC aK aV) yX1_holds cX1_holds 2 (some .boolean) ({ frames := 0, cells := 0, slots := 0, locals := 0 }) [.int x0, .int x1] S (some (.int r)) SF := by
  refine x_enter (own := RX1) (by decide +kernel) rfl (Nat.le_of_ble_eq_true rfl) (fun p e s m below meth c A B ls hw hl0 => ?_)
  have hl : lv_has ls 2 [(0, .int x0), (1, .int x1)] := hl0
  exact jMenu_holds_b0_ok B x0 x1 S hf hw hl

set_option maxHeartbeats 4000000 in
theorem jMenu_standsOff_b3_ok (B : XB p s m args meth c A cX1_standsOff 5 (some .boolean) RX1) {SF : St} {r : Int32} (K3 : Int32 → Int32 → Int32 → Int32 → St → Option (Int32 × St)) (hK3 : ∀ (x1 : Int32) (x2 : Int32) (x3 : Int32) (x4 : Int32) (S : St) (H : Heap) (locs : List Loc) (ls : Array Slot), K3 x1 x2 x3 x4 S = some (r, SF) → Xw D 40 (cellC T q) q T (ExC aK aV) A s S H locs → lv_has ls 5 [(0, .ref (q 14)), (1, .int x1), (2, .int x2), (3, .int x3), (4, .int x4)] → XG p l e ({ frames := 1, cells := 0, slots := 0, locals := 21 }) s m args below meth c D 40 (cellC T q) q T A SF (some (.int r)) H locs 3 ls [])  (x1 : Int32) (x2 : Int32) (x3 : Int32) (x4 : Int32) (S : St) {H : Heap} {locs : List Loc} {ls : Array Slot} (hf : jMenu_standsOff_b3 K3 x1 x2 x3 x4 S = some (r, SF)) (hw : Xw D 40 (cellC T q) q T (ExC aK aV) A s S H locs) (hl : lv_has ls 5 [(0, .ref (q 14)), (1, .int x1), (2, .int x2), (3, .int x3), (4, .int x4)]) : XG p l e ({ frames := 1, cells := 0, slots := 0, locals := 21 }) s m args below meth c D 40 (cellC T q) q T A SF (some (.int r)) H locs 3 ls [] := by
  unfold jMenu_standsOff_b3 at hf
  obtain ⟨hx, hb, hr, hml, hown, hts, hlk, hA⟩ := id B
  refine lv_iload hx hb dX1_standsOff_3 (lv_at hl 4 rfl) ?_
  refine lv_iload_n hx hb dX1_standsOff_5 rfl (lv_at hl 2 rfl) ?_
  refine lv_icmp_ge (tgt := 47) hx hb dX1_standsOff_6 (by decide) (fun hc => ?_) (fun hc => ?_)
  · have hf := x_pos hc hf
    refine lv_iconst (v := 1) hx hb dX1_standsOff_47 (by decide) ?_
    exact x_zret B hw hf dX1_standsOff_48
  · have hf := x_neg hc hf
    refine lv_iload_n hx hb dX1_standsOff_9 rfl (lv_at hl 1 rfl) ?_
    refine lv_iload hx hb dX1_standsOff_10 (lv_at hl 4 rfl) ?_
    obtain ⟨v2, S1, hc, hf⟩ := x_bd_some hf
    refine x_callS B ExC_ok hw (As := [.int x1, .int x4]) (rest := []) (st1 := [.int v2]) (jMenu_holds_ok hc) u591 u592 u41 u593 hdX1_holds rfl ⟨Nat.le_of_ble_eq_true rfl, Nat.le_of_ble_eq_true rfl⟩ ⟨rfl, rfl⟩ hl.1 (Nat.le_of_ble_eq_true rfl) dX1_standsOff_12 (fun H locs hw => ?_) rfl rfl
    refine lv_if_eq (tgt := 41) hx hb dX1_standsOff_15 (by decide) (fun hc => ?_) (fun hc => ?_)
    · have hf := x_pos hc hf
      refine lv_iinc (v := x4 + 1) (lv' := [(4, .int (x4 + 1)), (0, .ref (q 14)), (1, .int x1), (2, .int x2), (3, .int x3)]) hx hb dX1_standsOff_41 hl (k := 4) rfl xi_1 (by decide) rfl (fun ls hl => ?_)
      refine lv_goto (tgt := 3) hx hb dX1_standsOff_44 (by decide) ?_
      exact hK3 x1 x2 x3 (x4 + 1) S1 _ _ _ hf hw (lv_sub hl [1, 2, 3, 4, 0] rfl)
    · have hf := x_neg hc hf
      refine lv_aload_n hx hb dX1_standsOff_18 rfl (lv_at hl 0 rfl) ?_
      refine x_get B hw (Tb := TX1) inX1 14 (by decide) rfl rfl 2 (by decide) u106 (fun _ h => h) rfl dX1_standsOff_19 ?_
      refine lv_iload hx hb dX1_standsOff_22 (lv_at hl 4 rfl) ?_
      refine x_iald B hw 17 (by decide) rfl dX1_standsOff_24 hf (fun v3 hf => ?_)
      refine lv_aload_n hx hb dX1_standsOff_25 rfl (lv_at hl 0 rfl) ?_
      refine x_get B hw (Tb := TX1) inX1 14 (by decide) rfl rfl 2 (by decide) u106 (fun _ h => h) rfl dX1_standsOff_26 ?_
      refine lv_iload_n hx hb dX1_standsOff_29 rfl (lv_at hl 2 rfl) ?_
      refine x_iald B hw 17 (by decide) rfl dX1_standsOff_30 hf (fun v4 hf => ?_)
      refine lv_ixor hx hb dX1_standsOff_31 ?_
      obtain ⟨v6, S5, hc, hf⟩ := x_bd_some hf
      refine x_callS B ExC_ok hw (As := [.int (v3 ^^^ v4)]) (rest := []) (st1 := [.int v6]) (jInt_bitCount_ok hc) u598 u514 u51 u515 hdJ6_bitCount_0f7a4 rfl ⟨Nat.le_of_ble_eq_true rfl, Nat.le_of_ble_eq_true rfl⟩ ⟨rfl, rfl⟩ hl.1 (Nat.le_of_ble_eq_true rfl) dX1_standsOff_32 (fun H locs hw => ?_) rfl rfl
      refine lv_iload_n hx hb dX1_standsOff_35 rfl (lv_at hl 3 rfl) ?_
      refine lv_icmp_ge (tgt := 41) hx hb dX1_standsOff_36 (by decide) (fun hc => ?_) (fun hc => ?_)
      · have hf := x_pos hc hf
        refine lv_iinc (v := x4 + 1) (lv' := [(4, .int (x4 + 1)), (0, .ref (q 14)), (1, .int x1), (2, .int x2), (3, .int x3)]) hx hb dX1_standsOff_41 hl (k := 4) rfl xi_1 (by decide) rfl (fun ls hl => ?_)
        refine lv_goto (tgt := 3) hx hb dX1_standsOff_44 (by decide) ?_
        exact hK3 x1 x2 x3 (x4 + 1) S5 _ _ _ hf hw (lv_sub hl [1, 2, 3, 4, 0] rfl)
      · have hf := x_neg hc hf
        refine lv_iconst (v := 0) hx hb dX1_standsOff_39 (by decide) ?_
        exact x_zret B hw hf dX1_standsOff_40

theorem jMenu_standsOff_h3_ok (B : XB p s m args meth c A cX1_standsOff 5 (some .boolean) RX1) {SF : St} {r : Int32} : ∀ (n : Nat) (x1 : Int32) (x2 : Int32) (x3 : Int32) (x4 : Int32) (S : St) (H : Heap) (locs : List Loc) (ls : Array Slot), jMenu_standsOff_h3 n x1 x2 x3 x4 S = some (r, SF) → Xw D 40 (cellC T q) q T (ExC aK aV) A s S H locs → lv_has ls 5 [(0, .ref (q 14)), (1, .int x1), (2, .int x2), (3, .int x3), (4, .int x4)] → XG p l e ({ frames := 1, cells := 0, slots := 0, locals := 21 }) s m args below meth c D 40 (cellC T q) q T A SF (some (.int r)) H locs 3 ls [] := by
  intro n
  induction n with
  | zero =>
    intro x1 x2 x3 x4 S H locs ls hf hw hl
    rw [jMenu_standsOff_h3] at hf
    cases hf
  | succ n ih =>
    intro x1 x2 x3 x4 S H locs ls hf hw hl
    rw [jMenu_standsOff_h3] at hf
    exact jMenu_standsOff_b3_ok B (jMenu_standsOff_h3 n) ih x1 x2 x3 x4 S hf hw hl

set_option maxHeartbeats 4000000 in
theorem jMenu_standsOff_b0_ok (B : XB p s m args meth c A cX1_standsOff 5 (some .boolean) RX1) {SF : St} {r : Int32}  (x1 : Int32) (x2 : Int32) (x3 : Int32) (S : St) {H : Heap} {locs : List Loc} {ls : Array Slot} (hf : jMenu_standsOff x1 x2 x3 S = some (r, SF)) (hw : Xw D 40 (cellC T q) q T (ExC aK aV) A s S H locs) (hl : lv_has ls 5 [(0, .ref (q 14)), (1, .int x1), (2, .int x2), (3, .int x3)]) : XG p l e ({ frames := 1, cells := 0, slots := 0, locals := 21 }) s m args below meth c D 40 (cellC T q) q T A SF (some (.int r)) H locs 0 ls [] := by
  unfold jMenu_standsOff at hf
  obtain ⟨hx, hb, hr, hml, hown, hts, hlk, hA⟩ := id B
  refine lv_iconst (v := 0) hx hb dX1_standsOff_0 (by decide) ?_
  refine lv_istore (lv' := [(4, .int 0), (0, .ref (q 14)), (1, .int x1), (2, .int x2), (3, .int x3)]) hx hb dX1_standsOff_1 hl (by decide) rfl (fun ls hl => ?_)
  exact jMenu_standsOff_h3_ok B FU x1 x2 x3 0 S _ _ _ hf hw (lv_sub hl [1, 2, 3, 4, 0] rfl)

set_option maxHeartbeats 4000000 in
theorem jMenu_standsOff_ok {x1 : Int32} {x2 : Int32} {x3 : Int32} {S SF : St} {r : Int32} (hf : jMenu_standsOff x1 x2 x3 S = some (r, SF)) : XMet l D 40 (cellC T q) q T (ExC aK aV) yX1_standsOff cX1_standsOff 5 (some .boolean) ({ frames := 1, cells := 0, slots := 0, locals := 21 }) [.ref (q 14), .int x1, .int x2, .int x3] S (some (.int r)) SF := by
  refine x_enter (own := RX1) (by decide +kernel) rfl (Nat.le_of_ble_eq_true rfl) (fun p e s m below meth c A B ls hw hl0 => ?_)
  have hl : lv_has ls 5 [(0, .ref (q 14)), (1, .int x1), (2, .int x2), (3, .int x3)] := hl0
  exact jMenu_standsOff_b0_ok B x1 x2 x3 S hf hw hl

set_option maxHeartbeats 4000000 in
theorem jMenu_tellsApart_b6_ok (B : XB p s m args meth c A cX1_tellsApart 6 (some .boolean) RX1) {SF : St} {r : Int32} (K6 : Int32 → Int32 → Int32 → Int32 → St → Option (Int32 × St)) (hK6 : ∀ (x1 : Int32) (x3 : Int32) (x4 : Int32) (x5 : Int32) (S : St) (H : Heap) (locs : List Loc) (ls : Array Slot), K6 x1 x3 x4 x5 S = some (r, SF) → Xw D 40 (cellC T q) q T (ExC aK aV) A s S H locs → lv_has ls 6 [(0, .ref (q 14)), (1, .int x1), (3, .int x3), (4, .int x4), (5, .int x5)] → XG p l e ({ frames := 2, cells := 0, slots := 0, locals := 45 }) s m args below meth c D 40 (cellC T q) q T A SF (some (.int r)) H locs 6 ls [])  (x1 : Int32) (x3 : Int32) (x4 : Int32) (x5 : Int32) (S : St) {H : Heap} {locs : List Loc} {ls : Array Slot} (hf : jMenu_tellsApart_b6 K6 x1 x3 x4 x5 S = some (r, SF)) (hw : Xw D 40 (cellC T q) q T (ExC aK aV) A s S H locs) (hl : lv_has ls 6 [(0, .ref (q 14)), (1, .int x1), (3, .int x3), (4, .int x4), (5, .int x5)]) : XG p l e ({ frames := 2, cells := 0, slots := 0, locals := 45 }) s m args below meth c D 40 (cellC T q) q T A SF (some (.int r)) H locs 6 ls [] := by
  unfold jMenu_tellsApart_b6 at hf
  obtain ⟨hx, hb, hr, hml, hown, hts, hlk, hA⟩ := id B
  refine lv_iload hx hb dX1_tellsApart_6 (lv_at hl 4 rfl) ?_
  refine lv_aload_n hx hb dX1_tellsApart_8 rfl (lv_at hl 0 rfl) ?_
  refine x_get B hw (Tb := TX1) inX1 14 (by decide) rfl rfl 4 (by decide) u112 (fun _ h => h) rfl dX1_tellsApart_9 ?_
  refine lv_icmp_ge (tgt := 77) hx hb dX1_tellsApart_12 (by decide) (fun hc => ?_) (fun hc => ?_)
  · have hf := x_pos hc hf
    refine lv_iconst (v := 1) hx hb dX1_tellsApart_77 (by decide) ?_
    exact x_zret B hw hf dX1_tellsApart_78
  · have hf := x_neg hc hf
    refine lv_iload_n hx hb dX1_tellsApart_15 rfl (lv_at hl 1 rfl) ?_
    refine lv_iload hx hb dX1_tellsApart_16 (lv_at hl 4 rfl) ?_
    obtain ⟨v2, S1, hc, hf⟩ := x_bd_some hf
    refine x_callS B ExC_ok hw (As := [.int x1, .int x5]) (rest := []) (st1 := [.int v2]) (jMenu_holds_ok hc) u591 u592 u41 u593 hdX1_holds rfl ⟨Nat.le_of_ble_eq_true rfl, Nat.le_of_ble_eq_true rfl⟩ ⟨rfl, rfl⟩ hl.1 (Nat.le_of_ble_eq_true rfl) dX1_tellsApart_18 (fun H locs hw => ?_) rfl rfl
    refine lv_if_ne (tgt := 27) hx hb dX1_tellsApart_21 (by decide) (fun hc => ?_) (fun hc => ?_)
    · have hf := x_neg hc hf
      refine lv_iload hx hb dX1_tellsApart_27 (lv_at hl 3 rfl) ?_
      refine lv_aload_n hx hb dX1_tellsApart_29 rfl (lv_at hl 0 rfl) ?_
      refine x_get B hw (Tb := TX1) inX1 14 (by decide) rfl rfl 3 (by decide) u109 (fun _ h => h) rfl dX1_tellsApart_30 ?_
      refine lv_iload hx hb dX1_tellsApart_33 (lv_at hl 4 rfl) ?_
      refine x_iald B hw 18 (by decide) rfl dX1_tellsApart_35 hf (fun v3 hf => ?_)
      obtain ⟨v5, S4, hc, hf⟩ := x_bd_some hf
      refine x_callS B ExC_ok hw (As := [.int x4, .int v3]) (rest := []) (st1 := [.int v5]) (jMenu_holds_ok hc) u591 u592 u41 u593 hdX1_holds rfl ⟨Nat.le_of_ble_eq_true rfl, Nat.le_of_ble_eq_true rfl⟩ ⟨rfl, rfl⟩ hl.1 (Nat.le_of_ble_eq_true rfl) dX1_tellsApart_36 (fun H locs hw => ?_) rfl rfl
      refine lv_if_eq (tgt := 53) hx hb dX1_tellsApart_39 (by decide) (fun hc => ?_) (fun hc => ?_)
      · have hf := x_pos hc hf
        refine lv_iconst (v := 0) hx hb dX1_tellsApart_53 (by decide) ?_
        exact x_zret B hw hf dX1_tellsApart_54
      · have hf := x_neg hc hf
        refine lv_aload_n hx hb dX1_tellsApart_42 rfl (lv_at hl 0 rfl) ?_
        refine lv_iload_n hx hb dX1_tellsApart_43 rfl (lv_at hl 1 rfl) ?_
        refine lv_iload hx hb dX1_tellsApart_44 (lv_at hl 4 rfl) ?_
        refine lv_iload_n hx hb dX1_tellsApart_46 rfl (lv_at hl 2 rfl) ?_
        obtain ⟨v7, S6, hc, hf⟩ := x_bd_some hf
        refine x_callV B ExC_ok hw 14 (by decide) rfl rfl (As := [.int x1, .int x5, .int x3]) (rest := []) (st1 := [.int v7]) (jMenu_standsOff_ok hc) u594 u596 u9 u41 u597 hdX1_standsOff rfl ⟨Nat.le_of_ble_eq_true rfl, Nat.le_of_ble_eq_true rfl⟩ ⟨rfl, rfl⟩ hl.1 (Nat.le_of_ble_eq_true rfl) dX1_tellsApart_47 (fun H locs hw => ?_) rfl rfl
        refine lv_if_ne (tgt := 55) hx hb dX1_tellsApart_50 (by decide) (fun hc => ?_) (fun hc => ?_)
        · have hf := x_neg hc hf
          refine lv_iload hx hb dX1_tellsApart_55 (lv_at hl 3 rfl) ?_
          refine lv_iconst (v := 1) hx hb dX1_tellsApart_57 (by decide) ?_
          refine lv_aload_n hx hb dX1_tellsApart_58 rfl (lv_at hl 0 rfl) ?_
          refine x_get B hw (Tb := TX1) inX1 14 (by decide) rfl rfl 3 (by decide) u109 (fun _ h => h) rfl dX1_tellsApart_59 ?_
          refine lv_iload hx hb dX1_tellsApart_62 (lv_at hl 4 rfl) ?_
          refine x_iald B hw 18 (by decide) rfl dX1_tellsApart_64 hf (fun v8 hf => ?_)
          refine lv_ishl hx hb dX1_tellsApart_65 ?_
          refine lv_iconst (v := (-1)) hx hb dX1_tellsApart_66 (by decide) ?_
          refine lv_ixor hx hb dX1_tellsApart_67 ?_
          refine lv_iand hx hb dX1_tellsApart_68 ?_
          refine x_leti hf (fun v9 hf => ?_)
          refine lv_istore (lv' := [(4, .int v9), (0, .ref (q 14)), (1, .int x1), (3, .int x3), (5, .int x5)]) hx hb dX1_tellsApart_69 hl (by decide) rfl (fun ls hl => ?_)
          refine lv_iinc (v := x5 + 1) (lv' := [(5, .int (x5 + 1)), (4, .int v9), (0, .ref (q 14)), (1, .int x1), (3, .int x3)]) hx hb dX1_tellsApart_71 hl (k := 4) rfl xi_1 (by decide) rfl (fun ls hl => ?_)
          refine lv_goto (tgt := 6) hx hb dX1_tellsApart_74 (by decide) ?_
          exact hK6 x1 x3 v9 (x5 + 1) S6 _ _ _ hf hw (lv_sub hl [2, 3, 4, 1, 0] rfl)
        · have hf := x_pos hc hf
          refine lv_iconst (v := 0) hx hb dX1_tellsApart_53 (by decide) ?_
          exact x_zret B hw hf dX1_tellsApart_54
    · have hf := x_pos hc hf
      refine lv_goto (tgt := 71) hx hb dX1_tellsApart_24 (by decide) ?_
      refine lv_iinc (v := x5 + 1) (lv' := [(5, .int (x5 + 1)), (0, .ref (q 14)), (1, .int x1), (3, .int x3), (4, .int x4)]) hx hb dX1_tellsApart_71 hl (k := 4) rfl xi_1 (by decide) rfl (fun ls hl => ?_)
      refine lv_goto (tgt := 6) hx hb dX1_tellsApart_74 (by decide) ?_
      exact hK6 x1 x3 x4 (x5 + 1) S1 _ _ _ hf hw (lv_sub hl [1, 2, 3, 4, 0] rfl)

theorem jMenu_tellsApart_h6_ok (B : XB p s m args meth c A cX1_tellsApart 6 (some .boolean) RX1) {SF : St} {r : Int32} : ∀ (n : Nat) (x1 : Int32) (x3 : Int32) (x4 : Int32) (x5 : Int32) (S : St) (H : Heap) (locs : List Loc) (ls : Array Slot), jMenu_tellsApart_h6 n x1 x3 x4 x5 S = some (r, SF) → Xw D 40 (cellC T q) q T (ExC aK aV) A s S H locs → lv_has ls 6 [(0, .ref (q 14)), (1, .int x1), (3, .int x3), (4, .int x4), (5, .int x5)] → XG p l e ({ frames := 2, cells := 0, slots := 0, locals := 45 }) s m args below meth c D 40 (cellC T q) q T A SF (some (.int r)) H locs 6 ls [] := by
  intro n
  induction n with
  | zero =>
    intro x1 x3 x4 x5 S H locs ls hf hw hl
    rw [jMenu_tellsApart_h6] at hf
    cases hf
  | succ n ih =>
    intro x1 x3 x4 x5 S H locs ls hf hw hl
    rw [jMenu_tellsApart_h6] at hf
    exact jMenu_tellsApart_b6_ok B (jMenu_tellsApart_h6 n) ih x1 x3 x4 x5 S hf hw hl

set_option maxHeartbeats 4000000 in
theorem jMenu_tellsApart_b0_ok (B : XB p s m args meth c A cX1_tellsApart 6 (some .boolean) RX1) {SF : St} {r : Int32}  (x1 : Int32) (x2 : Int32) (x3 : Int32) (S : St) {H : Heap} {locs : List Loc} {ls : Array Slot} (hf : jMenu_tellsApart x1 x2 x3 S = some (r, SF)) (hw : Xw D 40 (cellC T q) q T (ExC aK aV) A s S H locs) (hl : lv_has ls 6 [(0, .ref (q 14)), (1, .int x1), (2, .int x2), (3, .int x3)]) : XG p l e ({ frames := 2, cells := 0, slots := 0, locals := 45 }) s m args below meth c D 40 (cellC T q) q T A SF (some (.int r)) H locs 0 ls [] := by
  unfold jMenu_tellsApart at hf
  obtain ⟨hx, hb, hr, hml, hown, hts, hlk, hA⟩ := id B
  refine lv_iload_n hx hb dX1_tellsApart_0 rfl (lv_at hl 2 rfl) ?_
  refine lv_istore (lv' := [(4, .int x2), (0, .ref (q 14)), (1, .int x1), (2, .int x2), (3, .int x3)]) hx hb dX1_tellsApart_1 hl (by decide) rfl (fun ls hl => ?_)
  refine lv_iconst (v := 0) hx hb dX1_tellsApart_3 (by decide) ?_
  refine lv_istore (lv' := [(5, .int 0), (4, .int x2), (0, .ref (q 14)), (1, .int x1), (2, .int x2), (3, .int x3)]) hx hb dX1_tellsApart_4 hl (by decide) rfl (fun ls hl => ?_)
  exact jMenu_tellsApart_h6_ok B FU x1 x3 x2 0 S _ _ _ hf hw (lv_sub hl [2, 3, 5, 1, 0] rfl)

set_option maxHeartbeats 4000000 in
theorem jMenu_tellsApart_ok {x1 : Int32} {x2 : Int32} {x3 : Int32} {S SF : St} {r : Int32} (hf : jMenu_tellsApart x1 x2 x3 S = some (r, SF)) : XMet l D 40 (cellC T q) q T (ExC aK aV) yX1_tellsApart cX1_tellsApart 6 (some .boolean) ({ frames := 2, cells := 0, slots := 0, locals := 45 }) [.ref (q 14), .int x1, .int x2, .int x3] S (some (.int r)) SF := by
  refine x_enter (own := RX1) (by decide +kernel) rfl (Nat.le_of_ble_eq_true rfl) (fun p e s m below meth c A B ls hw hl0 => ?_)
  have hl : lv_has ls 6 [(0, .ref (q 14)), (1, .int x1), (2, .int x2), (3, .int x3)] := hl0
  exact jMenu_tellsApart_b0_ok B x1 x2 x3 S hf hw hl
end
