section
variable {p : Program} {l : Launch} {e : Env} {s : State} {m : MethodId} {args : Array Value} {below : List Frame} {meth : Method} {c : Code} {D : va_G} {q aK aV : Nat → Nat} {T : Nat → ClassId} {A : Nat → Prop}
set_option maxHeartbeats 4000000 in
theorem jMod_in_b0_ok (B : XB p s m args meth c A cX7_in 3 (some .boolean) RX7) {SF : St} {r : Int32}  (x0 : Int32) (x1 : Int32) (x2 : Int32) (S : St) {H : Heap} {locs : List Loc} {ls : Array Slot} (hf : jMod_in x0 x1 x2 S = some (r, SF)) (hw : Xw D 17 (cellM T q) q T ExM A s S H locs) (hl : lv_has ls 3 [(0, .int x0), (1, .int x1), (2, .int x2)]) : XG p l e ({ frames := 0, cells := 0, slots := 0, locals := 0 }) s m args below meth c D 17 (cellM T q) q T A SF (some (.int r)) H locs 0 ls [] := by
  unfold jMod_in at hf
  obtain ⟨hx, hb, hr, hml, hown, hts, hlk, hA⟩ := id B
  refine lv_iload_n hx hb dX7_in_0 rfl (lv_at hl 0 rfl) ?_
  refine lv_iload_n hx hb dX7_in_1 rfl (lv_at hl 1 rfl) ?_
  refine lv_icmp_lt (tgt := 14) hx hb dX7_in_2 (by decide) (fun hc => ?_) (fun hc => ?_)
  · have hf := x_pos hc hf
    refine lv_iconst (v := 0) hx hb dX7_in_14 (by decide) ?_
    exact x_zret B hw hf dX7_in_15
  · have hf := x_neg hc hf
    refine lv_iload_n hx hb dX7_in_5 rfl (lv_at hl 0 rfl) ?_
    refine lv_iload_n hx hb dX7_in_6 rfl (lv_at hl 2 rfl) ?_
    refine lv_icmp_gt (tgt := 14) hx hb dX7_in_7 (by decide) (fun hc => ?_) (fun hc => ?_)
    · have hf := x_pos hc hf
      refine lv_iconst (v := 0) hx hb dX7_in_14 (by decide) ?_
      exact x_zret B hw hf dX7_in_15
    · have hf := x_neg hc hf
      refine lv_iconst (v := 1) hx hb dX7_in_10 (by decide) ?_
      refine lv_goto (tgt := 15) hx hb dX7_in_11 (by decide) ?_
      exact x_zret B hw hf dX7_in_15

set_option maxHeartbeats 4000000 in
theorem jMod_in_ok {x0 : Int32} {x1 : Int32} {x2 : Int32} {S SF : St} {r : Int32} (hf : jMod_in x0 x1 x2 S = some (r, SF)) : XMet l D 17 (cellM T q) q T ExM yX7_in cX7_in 3 (some .boolean) ({ frames := 0, cells := 0, slots := 0, locals := 0 }) [.int x0, .int x1, .int x2] S (some (.int r)) SF := by
  refine x_enter (own := RX7) (by decide +kernel) rfl (Nat.le_of_ble_eq_true rfl) (fun p e s m below meth c A B ls hw hl0 => ?_)
  have hl : lv_has ls 3 [(0, .int x0), (1, .int x1), (2, .int x2)] := hl0
  exact jMod_in_b0_ok B x0 x1 x2 S hf hw hl

set_option maxHeartbeats 4000000 in
theorem jMod_type_b32_ok (B : XB p s m args meth c A cX7_type 5 (some .int) RX7) {SF : St} {r : Int32} (K32 : Int64 → Int32 → St → Option (Int32 × St)) (hK32 : ∀ (y1 : Int64) (x4 : Int32) (S : St) (H : Heap) (locs : List Loc) (ls : Array Slot), K32 y1 x4 S = some (r, SF) → Xw D 17 (cellM T q) q T ExM A s S H locs → lv_has ls 5 [(0, .ref (q 0)), (1, .long y1), (4, .int x4)] → XG p l e ({ frames := 1, cells := 0, slots := 0, locals := 22 }) s m args below meth c D 17 (cellM T q) q T A SF (some (.int r)) H locs 32 ls [])  (y1 : Int64) (x4 : Int32) (S : St) {H : Heap} {locs : List Loc} {ls : Array Slot} (hf : jMod_type_b32 K32 y1 x4 S = some (r, SF)) (hw : Xw D 17 (cellM T q) q T ExM A s S H locs) (hl : lv_has ls 5 [(0, .ref (q 0)), (1, .long y1), (4, .int x4)]) : XG p l e ({ frames := 1, cells := 0, slots := 0, locals := 22 }) s m args below meth c D 17 (cellM T q) q T A SF (some (.int r)) H locs 32 ls [] := by
  unfold jMod_type_b32 at hf
  obtain ⟨hx, hb, hr, hml, hown, hts, hlk, hA⟩ := id B
  refine lv_iload hx hb dX7_type_32 (lv_at hl 2 rfl) ?_
  refine lv_if_lt (tgt := 75) hx hb dX7_type_34 (by decide) (fun hc => ?_) (fun hc => ?_)
  · have hf := x_pos hc hf
    refine lv_aload_n hx hb dX7_type_75 rfl (lv_at hl 0 rfl) ?_
    refine x_get B hw (Tb := TX7) inX7 0 (by decide) rfl rfl 2 (by decide) u692 (fun _ h => h) rfl dX7_type_76 ?_
    exact x_iret B hw hf dX7_type_79
  · have hf := x_neg hc hf
    refine lv_aload_n hx hb dX7_type_37 rfl (lv_at hl 0 rfl) ?_
    refine x_get B hw (Tb := TX7) inX7 0 (by decide) rfl rfl 1 (by decide) u691 (fun _ h => h) rfl dX7_type_38 ?_
    refine lv_aload_n hx hb dX7_type_41 rfl (lv_at hl 0 rfl) ?_
    refine x_get B hw (Tb := TX7) inX7 0 (by decide) rfl rfl 2 (by decide) u692 (fun _ h => h) rfl dX7_type_42 ?_
    refine lv_lload_n hx hb dX7_type_45 rfl (lv_at hl 1 rfl) ?_
    refine lv_bipush (v := 8) hx hb dX7_type_46 (by decide) ?_
    refine lv_iload hx hb dX7_type_48 (lv_at hl 2 rfl) ?_
    refine lv_imul hx hb dX7_type_50 ?_
    refine lv_lshr (v := x_lshr y1 (8 * x4)) hx hb dX7_type_51 rfl ?_
    refine lv_ldc2 (v := 255) hx hb hown (hts _ u771) dX7_type_52 ?_
    refine lv_land hx hb dX7_type_55 ?_
    refine lv_l2i (v := Int64.toInt32 ((x_lshr y1 (8 * x4)) &&& 255)) hx hb dX7_type_56 rfl ?_
    refine lv_i2b (v := x_i2b (Int64.toInt32 ((x_lshr y1 (8 * x4)) &&& 255))) hx hb dX7_type_57 rfl ?_
    refine x_bast B hw 1 (by decide) (fun _ _ => rfl) dX7_type_58 hf (fun S4 H locs hw hf => ?_)
    refine lv_aload_n hx hb dX7_type_59 rfl (lv_at hl 0 rfl) ?_
    refine lv_dup hx hb dX7_type_60 rfl ?_
    refine x_get B hw (Tb := TX7) inX7 0 (by decide) rfl rfl 2 (by decide) u692 (fun _ h => h) rfl dX7_type_61 ?_
    refine lv_iconst (v := 1) hx hb dX7_type_64 (by decide) ?_
    refine lv_iadd hx hb dX7_type_65 ?_
    refine x_put B hw (Tb := TX7) inX7 tyX7 tyX7_ok nmX7 0 (by decide) rfl rfl 2 (by decide) u692 (fun _ h => h) rfl (ty := .int) (by decide +kernel) rfl rfl (Nat.le_of_ble_eq_true rfl) (S1 := upI S4 0 2 ((S4.1 0 2) + 1)) rfl upI_o (fun _ _ => rfl) dX7_type_66 hf (fun S5 H locs hw hf => ?_)
    refine lv_iinc (v := x4 + (-1)) (lv' := [(4, .int (x4 + (-1))), (0, .ref (q 0)), (1, .long y1)]) hx hb dX7_type_69 hl (k := 2) rfl xi_m1 (by decide) rfl (fun ls hl => ?_)
    refine lv_goto (tgt := 32) hx hb dX7_type_72 (by decide) ?_
    exact hK32 y1 (x4 + (-1)) S5 _ _ _ hf hw (lv_sub hl [1, 2, 0] rfl)

theorem jMod_type_h32_ok (B : XB p s m args meth c A cX7_type 5 (some .int) RX7) {SF : St} {r : Int32} : ∀ (n : Nat) (y1 : Int64) (x4 : Int32) (S : St) (H : Heap) (locs : List Loc) (ls : Array Slot), jMod_type_h32 n y1 x4 S = some (r, SF) → Xw D 17 (cellM T q) q T ExM A s S H locs → lv_has ls 5 [(0, .ref (q 0)), (1, .long y1), (4, .int x4)] → XG p l e ({ frames := 1, cells := 0, slots := 0, locals := 22 }) s m args below meth c D 17 (cellM T q) q T A SF (some (.int r)) H locs 32 ls [] := by
  intro n
  induction n with
  | zero =>
    intro y1 x4 S H locs ls hf hw hl
    rw [jMod_type_h32] at hf
    cases hf
  | succ n ih =>
    intro y1 x4 S H locs ls hf hw hl
    rw [jMod_type_h32] at hf
    exact jMod_type_b32_ok B (jMod_type_h32 n) ih y1 x4 S hf hw hl

set_option maxHeartbeats 4000000 in
theorem jMod_type_b0_ok (B : XB p s m args meth c A cX7_type 5 (some .int) RX7) {SF : St} {r : Int32}  (y1 : Int64) (x3 : Int32) (S : St) {H : Heap} {locs : List Loc} {ls : Array Slot} (hf : jMod_type y1 x3 S = some (r, SF)) (hw : Xw D 17 (cellM T q) q T ExM A s S H locs) (hl : lv_has ls 5 [(0, .ref (q 0)), (1, .long y1), (3, .int x3)]) : XG p l e ({ frames := 1, cells := 0, slots := 0, locals := 22 }) s m args below meth c D 17 (cellM T q) q T A SF (some (.int r)) H locs 0 ls [] := by
  unfold jMod_type at hf
  obtain ⟨hx, hb, hr, hml, hown, hts, hlk, hA⟩ := id B
  refine lv_iload_n hx hb dX7_type_0 rfl (lv_at hl 2 rfl) ?_
  refine lv_iconst (v := 1) hx hb dX7_type_1 (by decide) ?_
  refine lv_bipush (v := 8) hx hb dX7_type_2 (by decide) ?_
  obtain ⟨v2, S1, hc, hf⟩ := x_bd_some hf
  refine x_callS B ExM_ok hw (As := [.int x3, .int 1, .int 8]) (rest := []) (st1 := [.int v2]) (jMod_in_ok hc) u768 u769 u45 u770 hdX7_in rfl ⟨Nat.le_of_ble_eq_true rfl, Nat.le_of_ble_eq_true rfl⟩ ⟨rfl, rfl⟩ hl.1 (Nat.le_of_ble_eq_true rfl) dX7_type_4 (fun H locs hw => ?_) rfl rfl
  refine lv_if_ne (tgt := 12) hx hb dX7_type_7 (by decide) (fun hc => ?_) (fun hc => ?_)
  · have hf := x_neg hc hf
    refine lv_aload_n hx hb dX7_type_12 rfl (lv_at hl 0 rfl) ?_
    refine x_get B hw (Tb := TX7) inX7 0 (by decide) rfl rfl 2 (by decide) u692 (fun _ h => h) rfl dX7_type_13 ?_
    refine lv_iload_n hx hb dX7_type_16 rfl (lv_at hl 2 rfl) ?_
    refine lv_iadd hx hb dX7_type_17 ?_
    refine lv_sipush (v := 300) hx hb dX7_type_18 (by decide) ?_
    refine lv_icmp_le (tgt := 27) hx hb dX7_type_21 (by decide) (fun hc => ?_) (fun hc => ?_)
    · have hf := x_pos hc hf
      refine lv_iload_n hx hb dX7_type_27 rfl (lv_at hl 2 rfl) ?_
      refine lv_iconst (v := 1) hx hb dX7_type_28 (by decide) ?_
      refine lv_isub hx hb dX7_type_29 ?_
      refine x_leti hf (fun v3 hf => ?_)
      refine lv_istore (lv' := [(4, .int v3), (0, .ref (q 0)), (1, .long y1), (3, .int x3)]) hx hb dX7_type_30 hl (by decide) rfl (fun ls hl => ?_)
      exact jMod_type_h32_ok B FU y1 v3 S1 _ _ _ hf hw (lv_sub hl [1, 2, 0] rfl)
    · have hf := x_neg hc hf
      refine lv_bipush (v := (-3)) hx hb dX7_type_24 (by decide) ?_
      exact x_iret B hw hf dX7_type_26
  · have hf := x_pos hc hf
    refine lv_iconst (v := (-1)) hx hb dX7_type_10 (by decide) ?_
    exact x_iret B hw hf dX7_type_11

set_option maxHeartbeats 4000000 in
theorem jMod_type_ok {y1 : Int64} {x3 : Int32} {S SF : St} {r : Int32} (hf : jMod_type y1 x3 S = some (r, SF)) : XMet l D 17 (cellM T q) q T ExM yX7_type cX7_type 5 (some .int) ({ frames := 1, cells := 0, slots := 0, locals := 22 }) [.ref (q 0), .long y1, .int x3] S (some (.int r)) SF := by
  refine x_enter (own := RX7) (by decide +kernel) rfl (Nat.le_of_ble_eq_true rfl) (fun p e s m below meth c A B ls hw hl0 => ?_)
  have hl : lv_has ls 5 [(0, .ref (q 0)), (1, .long y1), (3, .int x3)] := hl0
  exact jMod_type_b0_ok B y1 x3 S hf hw hl

set_option maxHeartbeats 4000000 in
theorem jMod_clear_b0_ok (B : XB p s m args meth c A cX7_clear 2 (some .int) RX7) {SF : St} {r : Int32}  (S : St) {H : Heap} {locs : List Loc} {ls : Array Slot} (hf : jMod_clear S = some (r, SF)) (hw : Xw D 17 (cellM T q) q T ExM A s S H locs) (hl : lv_has ls 2 [(0, .ref (q 0))]) : XG p l e ({ frames := 0, cells := 0, slots := 0, locals := 0 }) s m args below meth c D 17 (cellM T q) q T A SF (some (.int r)) H locs 0 ls [] := by
  unfold jMod_clear at hf
  obtain ⟨hx, hb, hr, hml, hown, hts, hlk, hA⟩ := id B
  refine lv_aload_n hx hb dX7_clear_0 rfl (lv_at hl 0 rfl) ?_
  refine x_get B hw (Tb := TX7) inX7 0 (by decide) rfl rfl 2 (by decide) u692 (fun _ h => h) rfl dX7_clear_1 ?_
  refine x_leti hf (fun v1 hf => ?_)
  refine lv_istore_n (lv' := [(1, .int v1), (0, .ref (q 0))]) hx hb dX7_clear_4 rfl hl (by decide) rfl (fun ls hl => ?_)
  refine lv_aload_n hx hb dX7_clear_5 rfl (lv_at hl 1 rfl) ?_
  refine lv_iconst (v := 0) hx hb dX7_clear_6 (by decide) ?_
  refine x_put B hw (Tb := TX7) inX7 tyX7 tyX7_ok nmX7 0 (by decide) rfl rfl 2 (by decide) u692 (fun _ h => h) rfl (ty := .int) (by decide +kernel) rfl rfl (Nat.le_of_ble_eq_true rfl) (S1 := upI S 0 2 0) rfl upI_o (fun _ _ => rfl) dX7_clear_7 hf (fun S2 H locs hw hf => ?_)
  refine lv_iload_n hx hb dX7_clear_10 rfl (lv_at hl 0 rfl) ?_
  exact x_iret B hw hf dX7_clear_11

set_option maxHeartbeats 4000000 in
theorem jMod_clear_ok {S SF : St} {r : Int32} (hf : jMod_clear S = some (r, SF)) : XMet l D 17 (cellM T q) q T ExM yX7_clear cX7_clear 2 (some .int) ({ frames := 0, cells := 0, slots := 0, locals := 0 }) [.ref (q 0)] S (some (.int r)) SF := by
  refine x_enter (own := RX7) (by decide +kernel) rfl (Nat.le_of_ble_eq_true rfl) (fun p e s m below meth c A B ls hw hl0 => ?_)
  have hl : lv_has ls 2 [(0, .ref (q 0))] := hl0
  exact jMod_clear_b0_ok B S hf hw hl

set_option maxHeartbeats 4000000 in
theorem jMod_here_b0_ok (B : XB p s m args meth c A cX7_here 1 (some .int) RX7) {SF : St} {r : Int32}  (S : St) {H : Heap} {locs : List Loc} {ls : Array Slot} (hf : jMod_here S = some (r, SF)) (hw : Xw D 17 (cellM T q) q T ExM A s S H locs) (hl : lv_has ls 1 [(0, .ref (q 0))]) : XG p l e ({ frames := 0, cells := 0, slots := 0, locals := 0 }) s m args below meth c D 17 (cellM T q) q T A SF (some (.int r)) H locs 0 ls [] := by
  unfold jMod_here at hf
  obtain ⟨hx, hb, hr, hml, hown, hts, hlk, hA⟩ := id B
  refine lv_aload_n hx hb dX7_here_0 rfl (lv_at hl 0 rfl) ?_
  refine x_get B hw (Tb := TX7) inX7 0 (by decide) rfl rfl 10 (by decide) u700 (fun _ h => h) rfl dX7_here_1 ?_
  refine lv_aload_n hx hb dX7_here_4 rfl (lv_at hl 0 rfl) ?_
  refine x_get B hw (Tb := TX7) inX7 0 (by decide) rfl rfl 2 (by decide) u692 (fun _ h => h) rfl dX7_here_5 ?_
  refine lv_icmp_ge (tgt := 27) hx hb dX7_here_8 (by decide) (fun hc => ?_) (fun hc => ?_)
  · have hf := x_pos hc hf
    refine lv_iconst (v := (-1)) hx hb dX7_here_27 (by decide) ?_
    exact x_iret B hw hf dX7_here_28
  · have hf := x_neg hc hf
    refine lv_aload_n hx hb dX7_here_11 rfl (lv_at hl 0 rfl) ?_
    refine x_get B hw (Tb := TX7) inX7 0 (by decide) rfl rfl 1 (by decide) u691 (fun _ h => h) rfl dX7_here_12 ?_
    refine lv_aload_n hx hb dX7_here_15 rfl (lv_at hl 0 rfl) ?_
    refine x_get B hw (Tb := TX7) inX7 0 (by decide) rfl rfl 10 (by decide) u700 (fun _ h => h) rfl dX7_here_16 ?_
    refine x_bald B hw 1 (by decide) rfl dX7_here_19 hf (fun v1 hf => ?_)
    refine lv_sipush (v := 255) hx hb dX7_here_20 (by decide) ?_
    refine lv_iand hx hb dX7_here_23 ?_
    refine lv_goto (tgt := 28) hx hb dX7_here_24 (by decide) ?_
    exact x_iret B hw hf dX7_here_28

set_option maxHeartbeats 4000000 in
theorem jMod_here_ok {S SF : St} {r : Int32} (hf : jMod_here S = some (r, SF)) : XMet l D 17 (cellM T q) q T ExM yX7_here cX7_here 1 (some .int) ({ frames := 0, cells := 0, slots := 0, locals := 0 }) [.ref (q 0)] S (some (.int r)) SF := by
  refine x_enter (own := RX7) (by decide +kernel) rfl (Nat.le_of_ble_eq_true rfl) (fun p e s m below meth c A B ls hw hl0 => ?_)
  have hl : lv_has ls 1 [(0, .ref (q 0))] := hl0
  exact jMod_here_b0_ok B S hf hw hl

set_option maxHeartbeats 4000000 in
theorem jMod_meaning_b0_ok (B : XB p s m args meth c A cX7_meaning 1 (some .int) RX7) {SF : St} {r : Int32}  (x0 : Int32) (S : St) {H : Heap} {locs : List Loc} {ls : Array Slot} (hf : jMod_meaning x0 S = some (r, SF)) (hw : Xw D 17 (cellM T q) q T ExM A s S H locs) (hl : lv_has ls 1 [(0, .int x0)]) : XG p l e ({ frames := 0, cells := 0, slots := 0, locals := 0 }) s m args below meth c D 17 (cellM T q) q T A SF (some (.int r)) H locs 0 ls [] := by
  unfold jMod_meaning at hf
  obtain ⟨hx, hb, hr, hml, hown, hts, hlk, hA⟩ := id B
  refine lv_iload_n hx hb dX7_meaning_0 rfl (lv_at hl 0 rfl) ?_
  by_cases hc4786 : x0 = 4786
  · have hf := x_pos hc4786 hf
    refine lv_lookup (off := 39) (tgt := 40) hx hb dX7_meaning_1 (by decide) (by rw [hc4786]; decide) (by decide) ?_
    refine lv_iconst (v := 2) hx hb dX7_meaning_40 (by decide) ?_
    exact x_iret B hw hf dX7_meaning_41
  have hf := x_neg hc4786 hf
  by_cases hc85814 : x0 = 85814
  · have hf := x_pos hc85814 hf
    refine lv_lookup (off := 37) (tgt := 38) hx hb dX7_meaning_1 (by decide) (by rw [hc85814]; decide) (by decide) ?_
    refine lv_iconst (v := 1) hx hb dX7_meaning_38 (by decide) ?_
    exact x_iret B hw hf dX7_meaning_39
  have hf := x_neg hc85814 hf
  by_cases hc4562600 : x0 = 4562600
  · have hf := x_pos hc4562600 hf
    refine lv_lookup (off := 35) (tgt := 36) hx hb dX7_meaning_1 (by decide) (by rw [hc4562600]; decide) (by decide) ?_
    refine lv_iconst (v := 0) hx hb dX7_meaning_36 (by decide) ?_
    exact x_iret B hw hf dX7_meaning_37
  have hf := x_neg hc4562600 hf
  have hd4786 : ¬ Int32.toInt x0 = 4786 := x_ne hc4786 (by decide)
  have hd85814 : ¬ Int32.toInt x0 = 85814 := x_ne hc85814 (by decide)
  have hd4562600 : ¬ Int32.toInt x0 = 4562600 := x_ne hc4562600 (by decide)
  refine lv_lookup (off := 41) (tgt := 42) hx hb dX7_meaning_1 (by decide) (x_lko hd4786 hd85814 hd4562600) (by decide) ?_
  refine lv_bipush (v := 6) hx hb dX7_meaning_42 (by decide) ?_
  exact x_iret B hw hf dX7_meaning_44

set_option maxHeartbeats 4000000 in
theorem jMod_meaning_ok {x0 : Int32} {S SF : St} {r : Int32} (hf : jMod_meaning x0 S = some (r, SF)) : XMet l D 17 (cellM T q) q T ExM yX7_meaning cX7_meaning 1 (some .int) ({ frames := 0, cells := 0, slots := 0, locals := 0 }) [.int x0] S (some (.int r)) SF := by
  refine x_enter (own := RX7) (by decide +kernel) rfl (Nat.le_of_ble_eq_true rfl) (fun p e s m below meth c A B ls hw hl0 => ?_)
  have hl : lv_has ls 1 [(0, .int x0)] := hl0
  exact jMod_meaning_b0_ok B x0 S hf hw hl

set_option maxHeartbeats 4000000 in
theorem jMod_next_b287_ok (B : XB p s m args meth c A cX7_next 3 none RX7) {SF : St}  (s0 : Int32) (S : St) {H : Heap} {locs : List Loc} {ls : Array Slot} (hf : jMod_next_b287 s0 S = some SF) (hw : Xw D 17 (cellM T q) q T ExM A s S H locs) (hl : lv_has ls 3 []) : XG p l e ({ frames := 1, cells := 0, slots := 0, locals := 22 }) s m args below meth c D 17 (cellM T q) q T A SF none H locs 287 ls [.int s0, .ref (q 0)] := by
  unfold jMod_next_b287 at hf
  obtain ⟨hx, hb, hr, hml, hown, hts, hlk, hA⟩ := id B
  refine x_put B hw (Tb := TX7) inX7 tyX7 tyX7_ok nmX7 0 (by decide) rfl rfl 12 (by decide) u702 (fun _ h => h) rfl (ty := .int) (by decide +kernel) rfl rfl (Nat.le_of_ble_eq_true rfl) (S1 := upI S 0 12 s0) rfl upI_o (fun _ _ => rfl) dX7_next_287 hf (fun S12 H locs hw hf => ?_)
  exact x_vret B hw hf dX7_next_290

set_option maxHeartbeats 4000000 in
theorem jMod_next_b258_ok (B : XB p s m args meth c A cX7_next 3 none RX7) {SF : St}  (s0 : Int32) (S : St) {H : Heap} {locs : List Loc} {ls : Array Slot} (hf : jMod_next_b258 s0 S = some SF) (hw : Xw D 17 (cellM T q) q T ExM A s S H locs) (hl : lv_has ls 3 []) : XG p l e ({ frames := 1, cells := 0, slots := 0, locals := 22 }) s m args below meth c D 17 (cellM T q) q T A SF none H locs 258 ls [.int s0, .ref (q 0)] := by
  unfold jMod_next_b258 at hf
  obtain ⟨hx, hb, hr, hml, hown, hts, hlk, hA⟩ := id B
  refine x_put B hw (Tb := TX7) inX7 tyX7 tyX7_ok nmX7 0 (by decide) rfl rfl 12 (by decide) u702 (fun _ h => h) rfl (ty := .int) (by decide +kernel) rfl rfl (Nat.le_of_ble_eq_true rfl) (S1 := upI S 0 12 s0) rfl upI_o (fun _ _ => rfl) dX7_next_258 hf (fun S17 H locs hw hf => ?_)
  refine lv_goto (tgt := 290) hx hb dX7_next_261 (by decide) ?_
  exact x_vret B hw hf dX7_next_290

set_option maxHeartbeats 4000000 in
theorem jMod_next_b207_ok (B : XB p s m args meth c A cX7_next 3 none RX7) {SF : St} (K161 : Int32 → St → Option (St)) (hK161 : ∀ (x1 : Int32) (S : St) (H : Heap) (locs : List Loc) (ls : Array Slot), K161 x1 S = some SF → Xw D 17 (cellM T q) q T ExM A s S H locs → lv_has ls 3 [(0, .ref (q 0)), (1, .int x1)] → XG p l e ({ frames := 1, cells := 0, slots := 0, locals := 22 }) s m args below meth c D 17 (cellM T q) q T A SF none H locs 161 ls [])  (x1 : Int32) (s0 : Int32) (S : St) {H : Heap} {locs : List Loc} {ls : Array Slot} (hf : jMod_next_b207 K161 x1 s0 S = some SF) (hw : Xw D 17 (cellM T q) q T ExM A s S H locs) (hl : lv_has ls 3 [(0, .ref (q 0)), (1, .int x1)]) : XG p l e ({ frames := 1, cells := 0, slots := 0, locals := 22 }) s m args below meth c D 17 (cellM T q) q T A SF none H locs 207 ls [.int s0, .ref (q 0)] := by
  unfold jMod_next_b207 at hf
  obtain ⟨hx, hb, hr, hml, hown, hts, hlk, hA⟩ := id B
  refine x_put B hw (Tb := TX7) inX7 tyX7 tyX7_ok nmX7 0 (by decide) rfl rfl 13 (by decide) u703 (fun _ h => h) rfl (ty := .int) (by decide +kernel) rfl rfl (Nat.le_of_ble_eq_true rfl) (S1 := upI S 0 13 s0) rfl upI_o (fun _ _ => rfl) dX7_next_207 hf (fun S20 H locs hw hf => ?_)
  refine lv_aload_n hx hb dX7_next_210 rfl (lv_at hl 0 rfl) ?_
  refine lv_dup hx hb dX7_next_211 rfl ?_
  refine x_get B hw (Tb := TX7) inX7 0 (by decide) rfl rfl 10 (by decide) u700 (fun _ h => h) rfl dX7_next_212 ?_
  refine lv_iconst (v := 1) hx hb dX7_next_215 (by decide) ?_
  refine lv_iadd hx hb dX7_next_216 ?_
  refine x_put B hw (Tb := TX7) inX7 tyX7 tyX7_ok nmX7 0 (by decide) rfl rfl 10 (by decide) u700 (fun _ h => h) rfl (ty := .int) (by decide +kernel) rfl rfl (Nat.le_of_ble_eq_true rfl) (S1 := upI S20 0 10 ((S20.1 0 10) + 1)) rfl upI_o (fun _ _ => rfl) dX7_next_217 hf (fun S21 H locs hw hf => ?_)
  refine lv_goto (tgt := 161) hx hb dX7_next_220 (by decide) ?_
  exact hK161 x1 S21 _ _ _ hf hw (lv_sub hl [0, 1] rfl)

set_option maxHeartbeats 4000000 in
theorem jMod_next_b161_ok (B : XB p s m args meth c A cX7_next 3 none RX7) {SF : St} (K161 : Int32 → St → Option (St)) (hK161 : ∀ (x1 : Int32) (S : St) (H : Heap) (locs : List Loc) (ls : Array Slot), K161 x1 S = some SF → Xw D 17 (cellM T q) q T ExM A s S H locs → lv_has ls 3 [(0, .ref (q 0)), (1, .int x1)] → XG p l e ({ frames := 1, cells := 0, slots := 0, locals := 22 }) s m args below meth c D 17 (cellM T q) q T A SF none H locs 161 ls [])  (x1 : Int32) (S : St) {H : Heap} {locs : List Loc} {ls : Array Slot} (hf : jMod_next_b161 K161 x1 S = some SF) (hw : Xw D 17 (cellM T q) q T ExM A s S H locs) (hl : lv_has ls 3 [(0, .ref (q 0)), (1, .int x1)]) : XG p l e ({ frames := 1, cells := 0, slots := 0, locals := 22 }) s m args below meth c D 17 (cellM T q) q T A SF none H locs 161 ls [] := by
  unfold jMod_next_b161 at hf
  obtain ⟨hx, hb, hr, hml, hown, hts, hlk, hA⟩ := id B
  refine lv_aload_n hx hb dX7_next_161 rfl (lv_at hl 0 rfl) ?_
  obtain ⟨v14, S13, hc, hf⟩ := x_bd_some hf
  refine x_callV B ExM_ok hw 0 (by decide) rfl rfl (As := []) (rest := []) (st1 := [.int v14]) (jMod_here_ok hc) u784 u786 u18 u45 u787 hdX7_here rfl ⟨Nat.le_of_ble_eq_true rfl, Nat.le_of_ble_eq_true rfl⟩ ⟨rfl, rfl⟩ hl.1 (Nat.le_of_ble_eq_true rfl) dX7_next_162 (fun H locs hw => ?_) rfl rfl
  refine lv_bipush (v := 48) hx hb dX7_next_165 (by decide) ?_
  refine lv_bipush (v := 57) hx hb dX7_next_167 (by decide) ?_
  obtain ⟨v16, S15, hc, hf⟩ := x_bd_some hf
  refine x_callS B ExM_ok hw (As := [.int v14, .int 48, .int 57]) (rest := []) (st1 := [.int v16]) (jMod_in_ok hc) u768 u769 u45 u770 hdX7_in rfl ⟨Nat.le_of_ble_eq_true rfl, Nat.le_of_ble_eq_true rfl⟩ ⟨rfl, rfl⟩ hl.1 (Nat.le_of_ble_eq_true rfl) dX7_next_169 (fun H locs hw => ?_) rfl rfl
  refine lv_if_eq (tgt := 223) hx hb dX7_next_172 (by decide) (fun hc => ?_) (fun hc => ?_)
  · have hf := x_pos hc hf
    refine lv_aload_n hx hb dX7_next_223 rfl (lv_at hl 0 rfl) ?_
    refine lv_aload_n hx hb dX7_next_224 rfl (lv_at hl 0 rfl) ?_
    refine x_get B hw (Tb := TX7) inX7 0 (by decide) rfl rfl 13 (by decide) u703 (fun _ h => h) rfl dX7_next_225 ?_
    refine lv_bipush (v := 99) hx hb dX7_next_228 (by decide) ?_
    refine lv_icmp_gt (tgt := 252) hx hb dX7_next_230 (by decide) (fun hc => ?_) (fun hc => ?_)
    · have hf := x_pos hc hf
      refine lv_bipush (v := 6) hx hb dX7_next_252 (by decide) ?_
      refine lv_goto (tgt := 258) hx hb dX7_next_254 (by decide) ?_
      exact jMod_next_b258_ok B 6 S15 hf hw (lv_sub hl [] rfl)
    · have hf := x_neg hc hf
      refine lv_iload_n hx hb dX7_next_233 rfl (lv_at hl 1 rfl) ?_
      refine lv_bipush (v := 48) hx hb dX7_next_234 (by decide) ?_
      refine lv_icmp_ne (tgt := 257) hx hb dX7_next_236 (by decide) (fun hc => ?_) (fun hc => ?_)
      · have hf := x_neg hc hf
        refine lv_iconst (v := 4) hx hb dX7_next_257 (by decide) ?_
        exact jMod_next_b258_ok B 4 S15 hf hw (lv_sub hl [] rfl)
      · have hf := x_pos hc hf
        refine lv_aload_n hx hb dX7_next_239 rfl (lv_at hl 0 rfl) ?_
        refine x_get B hw (Tb := TX7) inX7 0 (by decide) rfl rfl 10 (by decide) u700 (fun _ h => h) rfl dX7_next_240 ?_
        refine lv_aload_n hx hb dX7_next_243 rfl (lv_at hl 0 rfl) ?_
        refine x_get B hw (Tb := TX7) inX7 0 (by decide) rfl rfl 11 (by decide) u701 (fun _ h => h) rfl dX7_next_244 ?_
        refine lv_isub hx hb dX7_next_247 ?_
        refine lv_iconst (v := 1) hx hb dX7_next_248 (by decide) ?_
        refine lv_icmp_le (tgt := 257) hx hb dX7_next_249 (by decide) (fun hc => ?_) (fun hc => ?_)
        · have hf := x_pos hc hf
          refine lv_iconst (v := 4) hx hb dX7_next_257 (by decide) ?_
          exact jMod_next_b258_ok B 4 S15 hf hw (lv_sub hl [] rfl)
        · have hf := x_neg hc hf
          refine lv_bipush (v := 6) hx hb dX7_next_252 (by decide) ?_
          refine lv_goto (tgt := 258) hx hb dX7_next_254 (by decide) ?_
          exact jMod_next_b258_ok B 6 S15 hf hw (lv_sub hl [] rfl)
  · have hf := x_neg hc hf
    refine lv_aload_n hx hb dX7_next_175 rfl (lv_at hl 0 rfl) ?_
    refine lv_aload_n hx hb dX7_next_176 rfl (lv_at hl 0 rfl) ?_
    refine x_get B hw (Tb := TX7) inX7 0 (by decide) rfl rfl 13 (by decide) u703 (fun _ h => h) rfl dX7_next_177 ?_
    refine lv_bipush (v := 99) hx hb dX7_next_180 (by decide) ?_
    refine lv_icmp_le (tgt := 192) hx hb dX7_next_182 (by decide) (fun hc => ?_) (fun hc => ?_)
    · have hf := x_pos hc hf
      refine lv_bipush (v := 10) hx hb dX7_next_192 (by decide) ?_
      refine lv_aload_n hx hb dX7_next_194 rfl (lv_at hl 0 rfl) ?_
      refine x_get B hw (Tb := TX7) inX7 0 (by decide) rfl rfl 13 (by decide) u703 (fun _ h => h) rfl dX7_next_195 ?_
      refine lv_imul hx hb dX7_next_198 ?_
      refine lv_aload_n hx hb dX7_next_199 rfl (lv_at hl 0 rfl) ?_
      obtain ⟨v19, S18, hc, hf⟩ := x_bd_some hf
      refine x_callV B ExM_ok hw 0 (by decide) rfl rfl (As := []) (rest := [.int (10 * (S15.1 0 13)), .ref (q 0)]) (st1 := [.int v19, .int (10 * (S15.1 0 13)), .ref (q 0)]) (jMod_here_ok hc) u784 u786 u18 u45 u787 hdX7_here rfl ⟨Nat.le_of_ble_eq_true rfl, Nat.le_of_ble_eq_true rfl⟩ ⟨rfl, rfl⟩ hl.1 (Nat.le_of_ble_eq_true rfl) dX7_next_200 (fun H locs hw => ?_) rfl rfl
      refine lv_iadd hx hb dX7_next_203 ?_
      refine lv_bipush (v := 48) hx hb dX7_next_204 (by decide) ?_
      refine lv_isub hx hb dX7_next_206 ?_
      exact jMod_next_b207_ok B K161 hK161 x1 (((10 * (S15.1 0 13)) + v19) - 48) S18 hf hw (lv_sub hl [0, 1] rfl)
    · have hf := x_neg hc hf
      refine lv_aload_n hx hb dX7_next_185 rfl (lv_at hl 0 rfl) ?_
      refine x_get B hw (Tb := TX7) inX7 0 (by decide) rfl rfl 13 (by decide) u703 (fun _ h => h) rfl dX7_next_186 ?_
      refine lv_goto (tgt := 207) hx hb dX7_next_189 (by decide) ?_
      exact jMod_next_b207_ok B K161 hK161 x1 (S15.1 0 13) S15 hf hw (lv_sub hl [0, 1] rfl)

theorem jMod_next_h161_ok (B : XB p s m args meth c A cX7_next 3 none RX7) {SF : St} : ∀ (n : Nat) (x1 : Int32) (S : St) (H : Heap) (locs : List Loc) (ls : Array Slot), jMod_next_h161 n x1 S = some SF → Xw D 17 (cellM T q) q T ExM A s S H locs → lv_has ls 3 [(0, .ref (q 0)), (1, .int x1)] → XG p l e ({ frames := 1, cells := 0, slots := 0, locals := 22 }) s m args below meth c D 17 (cellM T q) q T A SF none H locs 161 ls [] := by
  intro n
  induction n with
  | zero =>
    intro x1 S H locs ls hf hw hl
    rw [jMod_next_h161] at hf
    cases hf
  | succ n ih =>
    intro x1 S H locs ls hf hw hl
    rw [jMod_next_h161] at hf
    exact jMod_next_b161_ok B (jMod_next_h161 n) ih x1 S hf hw hl

set_option maxHeartbeats 4000000 in
theorem jMod_next_b141_ok (B : XB p s m args meth c A cX7_next 3 none RX7) {SF : St}  (s0 : Int32) (S : St) {H : Heap} {locs : List Loc} {ls : Array Slot} (hf : jMod_next_b141 s0 S = some SF) (hw : Xw D 17 (cellM T q) q T ExM A s S H locs) (hl : lv_has ls 3 []) : XG p l e ({ frames := 1, cells := 0, slots := 0, locals := 22 }) s m args below meth c D 17 (cellM T q) q T A SF none H locs 141 ls [.int s0, .ref (q 0)] := by
  unfold jMod_next_b141 at hf
  obtain ⟨hx, hb, hr, hml, hown, hts, hlk, hA⟩ := id B
  obtain ⟨v27, S26, hc, hf⟩ := x_bd_some hf
  refine x_callS B ExM_ok hw (As := [.int s0]) (rest := [.ref (q 0)]) (st1 := [.int v27, .ref (q 0)]) (jMod_meaning_ok hc) u788 u789 u45 u790 hdX7_meaning rfl ⟨Nat.le_of_ble_eq_true rfl, Nat.le_of_ble_eq_true rfl⟩ ⟨rfl, rfl⟩ hl.1 (Nat.le_of_ble_eq_true rfl) dX7_next_141 (fun H locs hw => ?_) rfl rfl
  refine x_put B hw (Tb := TX7) inX7 tyX7 tyX7_ok nmX7 0 (by decide) rfl rfl 12 (by decide) u702 (fun _ h => h) rfl (ty := .int) (by decide +kernel) rfl rfl (Nat.le_of_ble_eq_true rfl) (S1 := upI S26 0 12 v27) rfl upI_o (fun _ _ => rfl) dX7_next_144 hf (fun S28 H locs hw hf => ?_)
  refine lv_goto (tgt := 290) hx hb dX7_next_147 (by decide) ?_
  exact x_vret B hw hf dX7_next_290

set_option maxHeartbeats 4000000 in
theorem jMod_next_b108_ok (B : XB p s m args meth c A cX7_next 3 none RX7) {SF : St} (K65 : Int32 → St → Option (St)) (hK65 : ∀ (x2 : Int32) (S : St) (H : Heap) (locs : List Loc) (ls : Array Slot), K65 x2 S = some SF → Xw D 17 (cellM T q) q T ExM A s S H locs → lv_has ls 3 [(0, .ref (q 0)), (2, .int x2)] → XG p l e ({ frames := 1, cells := 0, slots := 0, locals := 22 }) s m args below meth c D 17 (cellM T q) q T A SF none H locs 65 ls [])  (s0 : Int32) (S : St) {H : Heap} {locs : List Loc} {ls : Array Slot} (hf : jMod_next_b108 K65 s0 S = some SF) (hw : Xw D 17 (cellM T q) q T ExM A s S H locs) (hl : lv_has ls 3 [(0, .ref (q 0))]) : XG p l e ({ frames := 1, cells := 0, slots := 0, locals := 22 }) s m args below meth c D 17 (cellM T q) q T A SF none H locs 108 ls [.int s0] := by
  unfold jMod_next_b108 at hf
  obtain ⟨hx, hb, hr, hml, hown, hts, hlk, hA⟩ := id B
  refine lv_istore_n (lv' := [(2, .int s0), (0, .ref (q 0))]) hx hb dX7_next_108 rfl hl (by decide) rfl (fun ls hl => ?_)
  refine lv_aload_n hx hb dX7_next_109 rfl (lv_at hl 1 rfl) ?_
  refine lv_dup hx hb dX7_next_110 rfl ?_
  refine x_get B hw (Tb := TX7) inX7 0 (by decide) rfl rfl 10 (by decide) u700 (fun _ h => h) rfl dX7_next_111 ?_
  refine lv_iconst (v := 1) hx hb dX7_next_114 (by decide) ?_
  refine lv_iadd hx hb dX7_next_115 ?_
  refine x_put B hw (Tb := TX7) inX7 tyX7 tyX7_ok nmX7 0 (by decide) rfl rfl 10 (by decide) u700 (fun _ h => h) rfl (ty := .int) (by decide +kernel) rfl rfl (Nat.le_of_ble_eq_true rfl) (S1 := upI S 0 10 ((S.1 0 10) + 1)) rfl upI_o (fun _ _ => rfl) dX7_next_116 hf (fun S29 H locs hw hf => ?_)
  refine lv_goto (tgt := 65) hx hb dX7_next_119 (by decide) ?_
  exact hK65 s0 S29 _ _ _ hf hw (lv_sub hl [1, 0] rfl)

set_option maxHeartbeats 4000000 in
theorem jMod_next_b65_ok (B : XB p s m args meth c A cX7_next 3 none RX7) {SF : St} (K65 : Int32 → St → Option (St)) (hK65 : ∀ (x2 : Int32) (S : St) (H : Heap) (locs : List Loc) (ls : Array Slot), K65 x2 S = some SF → Xw D 17 (cellM T q) q T ExM A s S H locs → lv_has ls 3 [(0, .ref (q 0)), (2, .int x2)] → XG p l e ({ frames := 1, cells := 0, slots := 0, locals := 22 }) s m args below meth c D 17 (cellM T q) q T A SF none H locs 65 ls [])  (x2 : Int32) (S : St) {H : Heap} {locs : List Loc} {ls : Array Slot} (hf : jMod_next_b65 K65 x2 S = some SF) (hw : Xw D 17 (cellM T q) q T ExM A s S H locs) (hl : lv_has ls 3 [(0, .ref (q 0)), (2, .int x2)]) : XG p l e ({ frames := 1, cells := 0, slots := 0, locals := 22 }) s m args below meth c D 17 (cellM T q) q T A SF none H locs 65 ls [] := by
  unfold jMod_next_b65 at hf
  obtain ⟨hx, hb, hr, hml, hown, hts, hlk, hA⟩ := id B
  refine lv_aload_n hx hb dX7_next_65 rfl (lv_at hl 0 rfl) ?_
  obtain ⟨v23, S22, hc, hf⟩ := x_bd_some hf
  refine x_callV B ExM_ok hw 0 (by decide) rfl rfl (As := []) (rest := []) (st1 := [.int v23]) (jMod_here_ok hc) u784 u786 u18 u45 u787 hdX7_here rfl ⟨Nat.le_of_ble_eq_true rfl, Nat.le_of_ble_eq_true rfl⟩ ⟨rfl, rfl⟩ hl.1 (Nat.le_of_ble_eq_true rfl) dX7_next_66 (fun H locs hw => ?_) rfl rfl
  refine lv_bipush (v := 97) hx hb dX7_next_69 (by decide) ?_
  refine lv_bipush (v := 122) hx hb dX7_next_71 (by decide) ?_
  obtain ⟨v25, S24, hc, hf⟩ := x_bd_some hf
  refine x_callS B ExM_ok hw (As := [.int v23, .int 97, .int 122]) (rest := []) (st1 := [.int v25]) (jMod_in_ok hc) u768 u769 u45 u770 hdX7_in rfl ⟨Nat.le_of_ble_eq_true rfl, Nat.le_of_ble_eq_true rfl⟩ ⟨rfl, rfl⟩ hl.1 (Nat.le_of_ble_eq_true rfl) dX7_next_73 (fun H locs hw => ?_) rfl rfl
  refine lv_if_eq (tgt := 122) hx hb dX7_next_76 (by decide) (fun hc => ?_) (fun hc => ?_)
  · have hf := x_pos hc hf
    refine lv_aload_n hx hb dX7_next_122 rfl (lv_at hl 0 rfl) ?_
    refine lv_aload_n hx hb dX7_next_123 rfl (lv_at hl 0 rfl) ?_
    refine x_get B hw (Tb := TX7) inX7 0 (by decide) rfl rfl 10 (by decide) u700 (fun _ h => h) rfl dX7_next_124 ?_
    refine lv_aload_n hx hb dX7_next_127 rfl (lv_at hl 0 rfl) ?_
    refine x_get B hw (Tb := TX7) inX7 0 (by decide) rfl rfl 11 (by decide) u701 (fun _ h => h) rfl dX7_next_128 ?_
    refine lv_isub hx hb dX7_next_131 ?_
    refine lv_iconst (v := 5) hx hb dX7_next_132 (by decide) ?_
    refine lv_icmp_le (tgt := 140) hx hb dX7_next_133 (by decide) (fun hc => ?_) (fun hc => ?_)
    · have hf := x_pos hc hf
      refine lv_iload_n hx hb dX7_next_140 rfl (lv_at hl 1 rfl) ?_
      exact jMod_next_b141_ok B x2 S24 hf hw (lv_sub hl [] rfl)
    · have hf := x_neg hc hf
      refine lv_iconst (v := 0) hx hb dX7_next_136 (by decide) ?_
      refine lv_goto (tgt := 141) hx hb dX7_next_137 (by decide) ?_
      exact jMod_next_b141_ok B 0 S24 hf hw (lv_sub hl [] rfl)
  · have hf := x_neg hc hf
    refine lv_aload_n hx hb dX7_next_79 rfl (lv_at hl 0 rfl) ?_
    refine x_get B hw (Tb := TX7) inX7 0 (by decide) rfl rfl 10 (by decide) u700 (fun _ h => h) rfl dX7_next_80 ?_
    refine lv_aload_n hx hb dX7_next_83 rfl (lv_at hl 0 rfl) ?_
    refine x_get B hw (Tb := TX7) inX7 0 (by decide) rfl rfl 11 (by decide) u701 (fun _ h => h) rfl dX7_next_84 ?_
    refine lv_isub hx hb dX7_next_87 ?_
    refine lv_iconst (v := 5) hx hb dX7_next_88 (by decide) ?_
    refine lv_icmp_ge (tgt := 107) hx hb dX7_next_89 (by decide) (fun hc => ?_) (fun hc => ?_)
    · have hf := x_pos hc hf
      refine lv_iconst (v := 0) hx hb dX7_next_107 (by decide) ?_
      exact jMod_next_b108_ok B K65 hK65 0 S24 hf hw (lv_sub hl [0] rfl)
    · have hf := x_neg hc hf
      refine lv_bipush (v := 27) hx hb dX7_next_92 (by decide) ?_
      refine lv_iload_n hx hb dX7_next_94 rfl (lv_at hl 1 rfl) ?_
      refine lv_imul hx hb dX7_next_95 ?_
      refine lv_aload_n hx hb dX7_next_96 rfl (lv_at hl 0 rfl) ?_
      obtain ⟨v31, S30, hc, hf⟩ := x_bd_some hf
      refine x_callV B ExM_ok hw 0 (by decide) rfl rfl (As := []) (rest := [.int (27 * x2)]) (st1 := [.int v31, .int (27 * x2)]) (jMod_here_ok hc) u784 u786 u18 u45 u787 hdX7_here rfl ⟨Nat.le_of_ble_eq_true rfl, Nat.le_of_ble_eq_true rfl⟩ ⟨rfl, rfl⟩ hl.1 (Nat.le_of_ble_eq_true rfl) dX7_next_97 (fun H locs hw => ?_) rfl rfl
      refine lv_iadd hx hb dX7_next_100 ?_
      refine lv_bipush (v := 96) hx hb dX7_next_101 (by decide) ?_
      refine lv_isub hx hb dX7_next_103 ?_
      refine lv_goto (tgt := 108) hx hb dX7_next_104 (by decide) ?_
      exact jMod_next_b108_ok B K65 hK65 (((27 * x2) + v31) - 96) S30 hf hw (lv_sub hl [0] rfl)

theorem jMod_next_h65_ok (B : XB p s m args meth c A cX7_next 3 none RX7) {SF : St} : ∀ (n : Nat) (x2 : Int32) (S : St) (H : Heap) (locs : List Loc) (ls : Array Slot), jMod_next_h65 n x2 S = some SF → Xw D 17 (cellM T q) q T ExM A s S H locs → lv_has ls 3 [(0, .ref (q 0)), (2, .int x2)] → XG p l e ({ frames := 1, cells := 0, slots := 0, locals := 22 }) s m args below meth c D 17 (cellM T q) q T A SF none H locs 65 ls [] := by
  intro n
  induction n with
  | zero =>
    intro x2 S H locs ls hf hw hl
    rw [jMod_next_h65] at hf
    cases hf
  | succ n ih =>
    intro x2 S H locs ls hf hw hl
    rw [jMod_next_h65] at hf
    exact jMod_next_b65_ok B (jMod_next_h65 n) ih x2 S hf hw hl

set_option maxHeartbeats 4000000 in
theorem jMod_next_b0_ok (B : XB p s m args meth c A cX7_next 3 none RX7) {SF : St} (K0 : St → Option (St)) (hK0 : ∀ (S : St) (H : Heap) (locs : List Loc) (ls : Array Slot), K0 S = some SF → Xw D 17 (cellM T q) q T ExM A s S H locs → lv_has ls 3 [(0, .ref (q 0))] → XG p l e ({ frames := 1, cells := 0, slots := 0, locals := 22 }) s m args below meth c D 17 (cellM T q) q T A SF none H locs 0 ls [])  (S : St) {H : Heap} {locs : List Loc} {ls : Array Slot} (hf : jMod_next_b0 K0 S = some SF) (hw : Xw D 17 (cellM T q) q T ExM A s S H locs) (hl : lv_has ls 3 [(0, .ref (q 0))]) : XG p l e ({ frames := 1, cells := 0, slots := 0, locals := 22 }) s m args below meth c D 17 (cellM T q) q T A SF none H locs 0 ls [] := by
  unfold jMod_next_b0 at hf
  obtain ⟨hx, hb, hr, hml, hown, hts, hlk, hA⟩ := id B
  refine lv_aload_n hx hb dX7_next_0 rfl (lv_at hl 0 rfl) ?_
  obtain ⟨v2, S1, hc, hf⟩ := x_bd_some hf
  refine x_callV B ExM_ok hw 0 (by decide) rfl rfl (As := []) (rest := []) (st1 := [.int v2]) (jMod_here_ok hc) u784 u786 u18 u45 u787 hdX7_here rfl ⟨Nat.le_of_ble_eq_true rfl, Nat.le_of_ble_eq_true rfl⟩ ⟨rfl, rfl⟩ hl.1 (Nat.le_of_ble_eq_true rfl) dX7_next_1 (fun H locs hw => ?_) rfl rfl
  refine lv_bipush (v := 32) hx hb dX7_next_4 (by decide) ?_
  refine lv_icmp_ne (tgt := 22) hx hb dX7_next_6 (by decide) (fun hc => ?_) (fun hc => ?_)
  · have hf := x_neg hc hf
    refine lv_aload_n hx hb dX7_next_22 rfl (lv_at hl 0 rfl) ?_
    refine lv_aload_n hx hb dX7_next_23 rfl (lv_at hl 0 rfl) ?_
    refine x_get B hw (Tb := TX7) inX7 0 (by decide) rfl rfl 10 (by decide) u700 (fun _ h => h) rfl dX7_next_24 ?_
    refine x_put B hw (Tb := TX7) inX7 tyX7 tyX7_ok nmX7 0 (by decide) rfl rfl 11 (by decide) u701 (fun _ h => h) rfl (ty := .int) (by decide +kernel) rfl rfl (Nat.le_of_ble_eq_true rfl) (S1 := upI S1 0 11 (S1.1 0 10)) rfl upI_o (fun _ _ => rfl) dX7_next_27 hf (fun S3 H locs hw hf => ?_)
    refine lv_aload_n hx hb dX7_next_30 rfl (lv_at hl 0 rfl) ?_
    refine lv_iconst (v := 0) hx hb dX7_next_31 (by decide) ?_
    refine x_put B hw (Tb := TX7) inX7 tyX7 tyX7_ok nmX7 0 (by decide) rfl rfl 13 (by decide) u703 (fun _ h => h) rfl (ty := .int) (by decide +kernel) rfl rfl (Nat.le_of_ble_eq_true rfl) (S1 := upI S3 0 13 0) rfl upI_o (fun _ _ => rfl) dX7_next_32 hf (fun S4 H locs hw hf => ?_)
    refine lv_aload_n hx hb dX7_next_35 rfl (lv_at hl 0 rfl) ?_
    obtain ⟨v6, S5, hc, hf⟩ := x_bd_some hf
    refine x_callV B ExM_ok hw 0 (by decide) rfl rfl (As := []) (rest := []) (st1 := [.int v6]) (jMod_here_ok hc) u784 u786 u18 u45 u787 hdX7_here rfl ⟨Nat.le_of_ble_eq_true rfl, Nat.le_of_ble_eq_true rfl⟩ ⟨rfl, rfl⟩ hl.1 (Nat.le_of_ble_eq_true rfl) dX7_next_36 (fun H locs hw => ?_) rfl rfl
    refine lv_istore_n (lv' := [(1, .int v6), (0, .ref (q 0))]) hx hb dX7_next_39 rfl hl (by decide) rfl (fun ls hl => ?_)
    refine lv_iload_n hx hb dX7_next_40 rfl (lv_at hl 0 rfl) ?_
    refine lv_if_ge (tgt := 52) hx hb dX7_next_41 (by decide) (fun hc => ?_) (fun hc => ?_)
    · have hf := x_pos hc hf
      refine lv_iload_n hx hb dX7_next_52 rfl (lv_at hl 0 rfl) ?_
      refine lv_bipush (v := 97) hx hb dX7_next_53 (by decide) ?_
      refine lv_bipush (v := 122) hx hb dX7_next_55 (by decide) ?_
      obtain ⟨v8, S7, hc, hf⟩ := x_bd_some hf
      refine x_callS B ExM_ok hw (As := [.int v6, .int 97, .int 122]) (rest := []) (st1 := [.int v8]) (jMod_in_ok hc) u768 u769 u45 u770 hdX7_in rfl ⟨Nat.le_of_ble_eq_true rfl, Nat.le_of_ble_eq_true rfl⟩ ⟨rfl, rfl⟩ hl.1 (Nat.le_of_ble_eq_true rfl) dX7_next_57 (fun H locs hw => ?_) rfl rfl
      refine lv_if_eq (tgt := 150) hx hb dX7_next_60 (by decide) (fun hc => ?_) (fun hc => ?_)
      · have hf := x_pos hc hf
        refine lv_iload_n hx hb dX7_next_150 rfl (lv_at hl 0 rfl) ?_
        refine lv_bipush (v := 48) hx hb dX7_next_151 (by decide) ?_
        refine lv_bipush (v := 57) hx hb dX7_next_153 (by decide) ?_
        obtain ⟨v10, S9, hc, hf⟩ := x_bd_some hf
        refine x_callS B ExM_ok hw (As := [.int v6, .int 48, .int 57]) (rest := []) (st1 := [.int v10]) (jMod_in_ok hc) u768 u769 u45 u770 hdX7_in rfl ⟨Nat.le_of_ble_eq_true rfl, Nat.le_of_ble_eq_true rfl⟩ ⟨rfl, rfl⟩ hl.1 (Nat.le_of_ble_eq_true rfl) dX7_next_155 (fun H locs hw => ?_) rfl rfl
        refine lv_if_eq (tgt := 264) hx hb dX7_next_158 (by decide) (fun hc => ?_) (fun hc => ?_)
        · have hf := x_pos hc hf
          refine lv_aload_n hx hb dX7_next_264 rfl (lv_at hl 1 rfl) ?_
          refine lv_dup hx hb dX7_next_265 rfl ?_
          refine x_get B hw (Tb := TX7) inX7 0 (by decide) rfl rfl 10 (by decide) u700 (fun _ h => h) rfl dX7_next_266 ?_
          refine lv_iconst (v := 1) hx hb dX7_next_269 (by decide) ?_
          refine lv_iadd hx hb dX7_next_270 ?_
          refine x_put B hw (Tb := TX7) inX7 tyX7 tyX7_ok nmX7 0 (by decide) rfl rfl 10 (by decide) u700 (fun _ h => h) rfl (ty := .int) (by decide +kernel) rfl rfl (Nat.le_of_ble_eq_true rfl) (S1 := upI S9 0 10 ((S9.1 0 10) + 1)) rfl upI_o (fun _ _ => rfl) dX7_next_271 hf (fun S11 H locs hw hf => ?_)
          refine lv_aload_n hx hb dX7_next_274 rfl (lv_at hl 1 rfl) ?_
          refine lv_iload_n hx hb dX7_next_275 rfl (lv_at hl 0 rfl) ?_
          refine lv_bipush (v := 59) hx hb dX7_next_276 (by decide) ?_
          refine lv_icmp_ne (tgt := 285) hx hb dX7_next_278 (by decide) (fun hc => ?_) (fun hc => ?_)
          · have hf := x_neg hc hf
            refine lv_bipush (v := 6) hx hb dX7_next_285 (by decide) ?_
            exact jMod_next_b287_ok B 6 S11 hf hw (lv_sub hl [] rfl)
          · have hf := x_pos hc hf
            refine lv_iconst (v := 5) hx hb dX7_next_281 (by decide) ?_
            refine lv_goto (tgt := 287) hx hb dX7_next_282 (by decide) ?_
            exact jMod_next_b287_ok B 5 S11 hf hw (lv_sub hl [] rfl)
        · have hf := x_neg hc hf
          exact jMod_next_h161_ok B FU v6 S9 _ _ _ hf hw (lv_sub hl [1, 0] rfl)
      · have hf := x_neg hc hf
        refine lv_iconst (v := 0) hx hb dX7_next_63 (by decide) ?_
        refine lv_istore_n (lv' := [(2, .int 0), (1, .int v6), (0, .ref (q 0))]) hx hb dX7_next_64 rfl hl (by decide) rfl (fun ls hl => ?_)
        exact jMod_next_h65_ok B FU 0 S7 _ _ _ hf hw (lv_sub hl [2, 0] rfl)
    · have hf := x_neg hc hf
      refine lv_aload_n hx hb dX7_next_44 rfl (lv_at hl 1 rfl) ?_
      refine lv_iconst (v := 3) hx hb dX7_next_45 (by decide) ?_
      refine x_put B hw (Tb := TX7) inX7 tyX7 tyX7_ok nmX7 0 (by decide) rfl rfl 12 (by decide) u702 (fun _ h => h) rfl (ty := .int) (by decide +kernel) rfl rfl (Nat.le_of_ble_eq_true rfl) (S1 := upI S5 0 12 3) rfl upI_o (fun _ _ => rfl) dX7_next_46 hf (fun S32 H locs hw hf => ?_)
      refine lv_goto (tgt := 290) hx hb dX7_next_49 (by decide) ?_
      exact x_vret B hw hf dX7_next_290
  · have hf := x_pos hc hf
    refine lv_aload_n hx hb dX7_next_9 rfl (lv_at hl 0 rfl) ?_
    refine lv_dup hx hb dX7_next_10 rfl ?_
    refine x_get B hw (Tb := TX7) inX7 0 (by decide) rfl rfl 10 (by decide) u700 (fun _ h => h) rfl dX7_next_11 ?_
    refine lv_iconst (v := 1) hx hb dX7_next_14 (by decide) ?_
    refine lv_iadd hx hb dX7_next_15 ?_
    refine x_put B hw (Tb := TX7) inX7 tyX7 tyX7_ok nmX7 0 (by decide) rfl rfl 10 (by decide) u700 (fun _ h => h) rfl (ty := .int) (by decide +kernel) rfl rfl (Nat.le_of_ble_eq_true rfl) (S1 := upI S1 0 10 ((S1.1 0 10) + 1)) rfl upI_o (fun _ _ => rfl) dX7_next_16 hf (fun S33 H locs hw hf => ?_)
    refine lv_goto (tgt := 0) hx hb dX7_next_19 (by decide) ?_
    exact hK0 S33 _ _ _ hf hw (lv_sub hl [0] rfl)

theorem jMod_next_h0_ok (B : XB p s m args meth c A cX7_next 3 none RX7) {SF : St} : ∀ (n : Nat) (S : St) (H : Heap) (locs : List Loc) (ls : Array Slot), jMod_next_h0 n S = some SF → Xw D 17 (cellM T q) q T ExM A s S H locs → lv_has ls 3 [(0, .ref (q 0))] → XG p l e ({ frames := 1, cells := 0, slots := 0, locals := 22 }) s m args below meth c D 17 (cellM T q) q T A SF none H locs 0 ls [] := by
  intro n
  induction n with
  | zero =>
    intro S H locs ls hf hw hl
    rw [jMod_next_h0] at hf
    cases hf
  | succ n ih =>
    intro S H locs ls hf hw hl
    rw [jMod_next_h0] at hf
    exact jMod_next_b0_ok B (jMod_next_h0 n) ih S hf hw hl

set_option maxHeartbeats 4000000 in
theorem jMod_next_ok {S SF : St} (hf : jMod_next S = some SF) : XMet l D 17 (cellM T q) q T ExM yX7_next cX7_next 3 none ({ frames := 1, cells := 0, slots := 0, locals := 22 }) [.ref (q 0)] S none SF := by
  refine x_enter (own := RX7) (by decide +kernel) rfl (Nat.le_of_ble_eq_true rfl) (fun p e s m below meth c A B ls hw hl0 => ?_)
  have hl : lv_has ls 3 [(0, .ref (q 0))] := hl0
  unfold jMod_next at hf
  exact jMod_next_h0_ok B FU S _ _ _ hf hw hl

set_option maxHeartbeats 4000000 in
theorem jMod_due_b0_ok (B : XB p s m args meth c A cX7_due 3 (some .int) RX7) {SF : St} {r : Int32}  (x1 : Int32) (S : St) {H : Heap} {locs : List Loc} {ls : Array Slot} (hf : jMod_due x1 S = some (r, SF)) (hw : Xw D 17 (cellM T q) q T ExM A s S H locs) (hl : lv_has ls 3 [(0, .ref (q 0)), (1, .int x1)]) : XG p l e ({ frames := 2, cells := 0, slots := 0, locals := 44 }) s m args below meth c D 17 (cellM T q) q T A SF (some (.int r)) H locs 0 ls [] := by
  unfold jMod_due at hf
  obtain ⟨hx, hb, hr, hml, hown, hts, hlk, hA⟩ := id B
  refine lv_aload_n hx hb dX7_due_0 rfl (lv_at hl 0 rfl) ?_
  refine x_get B hw (Tb := TX7) inX7 0 (by decide) rfl rfl 13 (by decide) u703 (fun _ h => h) rfl dX7_due_1 ?_
  refine x_leti hf (fun v1 hf => ?_)
  refine lv_istore_n (lv' := [(2, .int v1), (0, .ref (q 0)), (1, .int x1)]) hx hb dX7_due_4 rfl hl (by decide) rfl (fun ls hl => ?_)
  refine lv_aload_n hx hb dX7_due_5 rfl (lv_at hl 1 rfl) ?_
  refine x_get B hw (Tb := TX7) inX7 0 (by decide) rfl rfl 14 (by decide) u704 (fun _ h => h) rfl dX7_due_6 ?_
  refine lv_bipush (v := (-9)) hx hb dX7_due_9 (by decide) ?_
  refine lv_icmp_ne (tgt := 33) hx hb dX7_due_11 (by decide) (fun hc => ?_) (fun hc => ?_)
  · have hf := x_neg hc hf
    refine lv_iload_n hx hb dX7_due_33 rfl (lv_at hl 0 rfl) ?_
    exact x_iret B hw hf dX7_due_34
  · have hf := x_pos hc hf
    refine lv_iload_n hx hb dX7_due_14 rfl (lv_at hl 2 rfl) ?_
    refine lv_if_eq (tgt := 25) hx hb dX7_due_15 (by decide) (fun hc => ?_) (fun hc => ?_)
    · have hf := x_pos hc hf
      refine lv_aload_n hx hb dX7_due_25 rfl (lv_at hl 1 rfl) ?_
      refine lv_aload_n hx hb dX7_due_26 rfl (lv_at hl 1 rfl) ?_
      refine x_get B hw (Tb := TX7) inX7 0 (by decide) rfl rfl 11 (by decide) u701 (fun _ h => h) rfl dX7_due_27 ?_
      refine x_put B hw (Tb := TX7) inX7 tyX7 tyX7_ok nmX7 0 (by decide) rfl rfl 14 (by decide) u704 (fun _ h => h) rfl (ty := .int) (by decide +kernel) rfl rfl (Nat.le_of_ble_eq_true rfl) (S1 := upI S 0 14 (S.1 0 11)) rfl upI_o (fun _ _ => rfl) dX7_due_30 hf (fun S2 H locs hw hf => ?_)
      refine lv_iload_n hx hb dX7_due_33 rfl (lv_at hl 0 rfl) ?_
      exact x_iret B hw hf dX7_due_34
    · have hf := x_neg hc hf
      refine lv_aload_n hx hb dX7_due_18 rfl (lv_at hl 1 rfl) ?_
      obtain ⟨S3, hc, hf⟩ := x_bv_some hf
      refine x_callV B ExM_ok hw 0 (by decide) rfl rfl (As := []) (rest := []) (st1 := []) (jMod_next_ok hc) u780 u782 u17 u45 u783 hdX7_next rfl ⟨Nat.le_of_ble_eq_true rfl, Nat.le_of_ble_eq_true rfl⟩ ⟨rfl, rfl⟩ hl.1 (Nat.le_of_ble_eq_true rfl) dX7_due_19 (fun H locs hw => ?_) rfl rfl
      refine lv_goto (tgt := 33) hx hb dX7_due_22 (by decide) ?_
      refine lv_iload_n hx hb dX7_due_33 rfl (lv_at hl 0 rfl) ?_
      exact x_iret B hw hf dX7_due_34

set_option maxHeartbeats 4000000 in
theorem jMod_due_ok {x1 : Int32} {S SF : St} {r : Int32} (hf : jMod_due x1 S = some (r, SF)) : XMet l D 17 (cellM T q) q T ExM yX7_due cX7_due 3 (some .int) ({ frames := 2, cells := 0, slots := 0, locals := 44 }) [.ref (q 0), .int x1] S (some (.int r)) SF := by
  refine x_enter (own := RX7) (by decide +kernel) rfl (Nat.le_of_ble_eq_true rfl) (fun p e s m below meth c A B ls hw hl0 => ?_)
  have hl : lv_has ls 3 [(0, .ref (q 0)), (1, .int x1)] := hl0
  exact jMod_due_b0_ok B x1 S hf hw hl

set_option maxHeartbeats 4000000 in
theorem jMod_number_b26_ok (B : XB p s m args meth c A cX7_number 2 (some .int) RX7) {SF : St} {r : Int32}  (s0 : Int32) (S : St) {H : Heap} {locs : List Loc} {ls : Array Slot} (hf : jMod_number_b26 s0 S = some (r, SF)) (hw : Xw D 17 (cellM T q) q T ExM A s S H locs) (hl : lv_has ls 2 []) : XG p l e ({ frames := 3, cells := 0, slots := 0, locals := 66 }) s m args below meth c D 17 (cellM T q) q T A SF (some (.int r)) H locs 26 ls [.int s0, .ref (q 0)] := by
  unfold jMod_number_b26 at hf
  obtain ⟨hx, hb, hr, hml, hown, hts, hlk, hA⟩ := id B
  obtain ⟨v2, S1, hc, hf⟩ := x_bd_some hf
  refine x_callV B ExM_ok hw 0 (by decide) rfl rfl (As := [.int s0]) (rest := []) (st1 := [.int v2]) (jMod_due_ok hc) u795 u797 u20 u45 u798 hdX7_due rfl ⟨Nat.le_of_ble_eq_true rfl, Nat.le_of_ble_eq_true rfl⟩ ⟨rfl, rfl⟩ hl.1 (Nat.le_of_ble_eq_true rfl) dX7_number_26 (fun H locs hw => ?_) rfl rfl
  exact x_iret B hw hf dX7_number_29

set_option maxHeartbeats 4000000 in
theorem jMod_number_b0_ok (B : XB p s m args meth c A cX7_number 2 (some .int) RX7) {SF : St} {r : Int32}  (x1 : Int32) (S : St) {H : Heap} {locs : List Loc} {ls : Array Slot} (hf : jMod_number x1 S = some (r, SF)) (hw : Xw D 17 (cellM T q) q T ExM A s S H locs) (hl : lv_has ls 2 [(0, .ref (q 0)), (1, .int x1)]) : XG p l e ({ frames := 3, cells := 0, slots := 0, locals := 66 }) s m args below meth c D 17 (cellM T q) q T A SF (some (.int r)) H locs 0 ls [] := by
  unfold jMod_number at hf
  obtain ⟨hx, hb, hr, hml, hown, hts, hlk, hA⟩ := id B
  refine lv_aload_n hx hb dX7_number_0 rfl (lv_at hl 0 rfl) ?_
  refine lv_aload_n hx hb dX7_number_1 rfl (lv_at hl 0 rfl) ?_
  refine x_get B hw (Tb := TX7) inX7 0 (by decide) rfl rfl 12 (by decide) u702 (fun _ h => h) rfl dX7_number_2 ?_
  refine lv_iconst (v := 4) hx hb dX7_number_5 (by decide) ?_
  refine lv_icmp_ne (tgt := 25) hx hb dX7_number_6 (by decide) (fun hc => ?_) (fun hc => ?_)
  · have hf := x_neg hc hf
    refine lv_iconst (v := 0) hx hb dX7_number_25 (by decide) ?_
    exact jMod_number_b26_ok B 0 S hf hw (lv_sub hl [] rfl)
  · have hf := x_pos hc hf
    refine lv_aload_n hx hb dX7_number_9 rfl (lv_at hl 0 rfl) ?_
    refine x_get B hw (Tb := TX7) inX7 0 (by decide) rfl rfl 13 (by decide) u703 (fun _ h => h) rfl dX7_number_10 ?_
    refine lv_iconst (v := 0) hx hb dX7_number_13 (by decide) ?_
    refine lv_iload_n hx hb dX7_number_14 rfl (lv_at hl 1 rfl) ?_
    obtain ⟨v4, S3, hc, hf⟩ := x_bd_some hf
    refine x_callS B ExM_ok hw (As := [.int (S.1 0 13), .int 0, .int x1]) (rest := [.ref (q 0)]) (st1 := [.int v4, .ref (q 0)]) (jMod_in_ok hc) u768 u769 u45 u770 hdX7_in rfl ⟨Nat.le_of_ble_eq_true rfl, Nat.le_of_ble_eq_true rfl⟩ ⟨rfl, rfl⟩ hl.1 (Nat.le_of_ble_eq_true rfl) dX7_number_15 (fun H locs hw => ?_) rfl rfl
    refine lv_if_eq (tgt := 25) hx hb dX7_number_18 (by decide) (fun hc => ?_) (fun hc => ?_)
    · have hf := x_pos hc hf
      refine lv_iconst (v := 0) hx hb dX7_number_25 (by decide) ?_
      exact jMod_number_b26_ok B 0 S3 hf hw (lv_sub hl [] rfl)
    · have hf := x_neg hc hf
      refine lv_iconst (v := 1) hx hb dX7_number_21 (by decide) ?_
      refine lv_goto (tgt := 26) hx hb dX7_number_22 (by decide) ?_
      exact jMod_number_b26_ok B 1 S3 hf hw (lv_sub hl [] rfl)

set_option maxHeartbeats 4000000 in
theorem jMod_number_ok {x1 : Int32} {S SF : St} {r : Int32} (hf : jMod_number x1 S = some (r, SF)) : XMet l D 17 (cellM T q) q T ExM yX7_number cX7_number 2 (some .int) ({ frames := 3, cells := 0, slots := 0, locals := 66 }) [.ref (q 0), .int x1] S (some (.int r)) SF := by
  refine x_enter (own := RX7) (by decide +kernel) rfl (Nat.le_of_ble_eq_true rfl) (fun p e s m below meth c A B ls hw hl0 => ?_)
  have hl : lv_has ls 2 [(0, .ref (q 0)), (1, .int x1)] := hl0
  exact jMod_number_b0_ok B x1 S hf hw hl

set_option maxHeartbeats 4000000 in
theorem jMod_readItem_b235_ok (B : XB p s m args meth c A cX7_readItem 4 none RX7) {SF : St}  (s0 : Int32) (S : St) {H : Heap} {locs : List Loc} {ls : Array Slot} (hf : jMod_readItem_b235 s0 S = some SF) (hw : Xw D 17 (cellM T q) q T ExM A s S H locs) (hl : lv_has ls 4 []) : XG p l e ({ frames := 4, cells := 0, slots := 0, locals := 87 }) s m args below meth c D 17 (cellM T q) q T A SF none H locs 235 ls [.int s0, .ref (q 0)] := by
  unfold jMod_readItem_b235 at hf
  obtain ⟨hx, hb, hr, hml, hown, hts, hlk, hA⟩ := id B
  obtain ⟨v9, S8, hc, hf⟩ := x_bd_some hf
  refine x_callV B ExM_ok hw 0 (by decide) rfl rfl (As := [.int s0]) (rest := []) (st1 := [.int v9]) (jMod_due_ok hc) u795 u797 u20 u45 u798 hdX7_due rfl ⟨Nat.le_of_ble_eq_true rfl, Nat.le_of_ble_eq_true rfl⟩ ⟨rfl, rfl⟩ hl.1 (Nat.le_of_ble_eq_true rfl) dX7_readItem_235 (fun H locs hw => ?_) rfl rfl
  refine lv_pop hx hb dX7_readItem_238 rfl ?_
  exact x_vret B hw hf dX7_readItem_239

set_option maxHeartbeats 4000000 in
theorem jMod_readItem_b221_ok (B : XB p s m args meth c A cX7_readItem 4 none RX7) {SF : St}  (S : St) {H : Heap} {locs : List Loc} {ls : Array Slot} (hf : jMod_readItem_b221 S = some SF) (hw : Xw D 17 (cellM T q) q T ExM A s S H locs) (hl : lv_has ls 4 [(0, .ref (q 0))]) : XG p l e ({ frames := 4, cells := 0, slots := 0, locals := 87 }) s m args below meth c D 17 (cellM T q) q T A SF none H locs 221 ls [] := by
  unfold jMod_readItem_b221 at hf
  obtain ⟨hx, hb, hr, hml, hown, hts, hlk, hA⟩ := id B
  refine lv_aload_n hx hb dX7_readItem_221 rfl (lv_at hl 0 rfl) ?_
  refine lv_aload_n hx hb dX7_readItem_222 rfl (lv_at hl 0 rfl) ?_
  refine x_get B hw (Tb := TX7) inX7 0 (by decide) rfl rfl 12 (by decide) u702 (fun _ h => h) rfl dX7_readItem_223 ?_
  refine lv_iconst (v := 5) hx hb dX7_readItem_226 (by decide) ?_
  refine lv_icmp_ne (tgt := 234) hx hb dX7_readItem_227 (by decide) (fun hc => ?_) (fun hc => ?_)
  · have hf := x_neg hc hf
    refine lv_iconst (v := 0) hx hb dX7_readItem_234 (by decide) ?_
    exact jMod_readItem_b235_ok B 0 S hf hw (lv_sub hl [] rfl)
  · have hf := x_pos hc hf
    refine lv_iconst (v := 1) hx hb dX7_readItem_230 (by decide) ?_
    refine lv_goto (tgt := 235) hx hb dX7_readItem_231 (by decide) ?_
    exact jMod_readItem_b235_ok B 1 S hf hw (lv_sub hl [] rfl)

set_option maxHeartbeats 4000000 in
theorem jMod_readItem_b141_ok (B : XB p s m args meth c A cX7_readItem 4 none RX7) {SF : St} (K141 : Int32 → Int32 → St → Option (St)) (hK141 : ∀ (x2 : Int32) (x3 : Int32) (S : St) (H : Heap) (locs : List Loc) (ls : Array Slot), K141 x2 x3 S = some SF → Xw D 17 (cellM T q) q T ExM A s S H locs → lv_has ls 4 [(0, .ref (q 0)), (2, .int x2), (3, .int x3)] → XG p l e ({ frames := 4, cells := 0, slots := 0, locals := 87 }) s m args below meth c D 17 (cellM T q) q T A SF none H locs 141 ls [])  (x2 : Int32) (x3 : Int32) (S : St) {H : Heap} {locs : List Loc} {ls : Array Slot} (hf : jMod_readItem_b141 K141 x2 x3 S = some SF) (hw : Xw D 17 (cellM T q) q T ExM A s S H locs) (hl : lv_has ls 4 [(0, .ref (q 0)), (2, .int x2), (3, .int x3)]) : XG p l e ({ frames := 4, cells := 0, slots := 0, locals := 87 }) s m args below meth c D 17 (cellM T q) q T A SF none H locs 141 ls [] := by
  unfold jMod_readItem_b141 at hf
  obtain ⟨hx, hb, hr, hml, hown, hts, hlk, hA⟩ := id B
  refine lv_iload_n hx hb dX7_readItem_141 rfl (lv_at hl 2 rfl) ?_
  refine lv_iconst (v := 5) hx hb dX7_readItem_142 (by decide) ?_
  refine lv_icmp_ge (tgt := 168) hx hb dX7_readItem_143 (by decide) (fun hc => ?_) (fun hc => ?_)
  · have hf := x_pos hc hf
    refine lv_aload_n hx hb dX7_readItem_168 rfl (lv_at hl 0 rfl) ?_
    refine x_get B hw (Tb := TX7) inX7 0 (by decide) rfl rfl 7 (by decide) u697 (fun _ h => h) rfl dX7_readItem_169 ?_
    refine lv_iload_n hx hb dX7_readItem_172 rfl (lv_at hl 1 rfl) ?_
    refine lv_aload_n hx hb dX7_readItem_173 rfl (lv_at hl 0 rfl) ?_
    refine lv_bipush (v := 7) hx hb dX7_readItem_174 (by decide) ?_
    obtain ⟨v13, S12, hc, hf⟩ := x_bd_some hf
    refine x_callV B ExM_ok hw 0 (by decide) rfl rfl (As := [.int 7]) (rest := [.int x2, .ref (q 6)]) (st1 := [.int v13, .int x2, .ref (q 6)]) (jMod_number_ok hc) u799 u801 u21 u45 u802 hdX7_number rfl ⟨Nat.le_of_ble_eq_true rfl, Nat.le_of_ble_eq_true rfl⟩ ⟨rfl, rfl⟩ hl.1 (Nat.le_of_ble_eq_true rfl) dX7_readItem_176 (fun H locs hw => ?_) rfl rfl
    refine x_iast B hw 6 (by decide) (fun _ _ => rfl) dX7_readItem_179 hf (fun S14 H locs hw hf => ?_)
    refine lv_aload_n hx hb dX7_readItem_180 rfl (lv_at hl 0 rfl) ?_
    refine x_get B hw (Tb := TX7) inX7 0 (by decide) rfl rfl 8 (by decide) u698 (fun _ h => h) rfl dX7_readItem_181 ?_
    refine lv_iload_n hx hb dX7_readItem_184 rfl (lv_at hl 1 rfl) ?_
    refine lv_aload_n hx hb dX7_readItem_185 rfl (lv_at hl 0 rfl) ?_
    refine lv_bipush (v := 7) hx hb dX7_readItem_186 (by decide) ?_
    obtain ⟨v16, S15, hc, hf⟩ := x_bd_some hf
    refine x_callV B ExM_ok hw 0 (by decide) rfl rfl (As := [.int 7]) (rest := [.int x2, .ref (q 7)]) (st1 := [.int v16, .int x2, .ref (q 7)]) (jMod_number_ok hc) u799 u801 u21 u45 u802 hdX7_number rfl ⟨Nat.le_of_ble_eq_true rfl, Nat.le_of_ble_eq_true rfl⟩ ⟨rfl, rfl⟩ hl.1 (Nat.le_of_ble_eq_true rfl) dX7_readItem_188 (fun H locs hw => ?_) rfl rfl
    refine x_iast B hw 7 (by decide) (fun _ _ => rfl) dX7_readItem_191 hf (fun S17 H locs hw hf => ?_)
    refine lv_aload_n hx hb dX7_readItem_192 rfl (lv_at hl 0 rfl) ?_
    refine x_get B hw (Tb := TX7) inX7 0 (by decide) rfl rfl 5 (by decide) u695 (fun _ h => h) rfl dX7_readItem_193 ?_
    refine lv_iconst (v := 1) hx hb dX7_readItem_196 (by decide) ?_
    refine lv_dup2_11 hx hb dX7_readItem_197 rfl rfl ?_
    refine x_iald B hw 4 (by decide) rfl dX7_readItem_198 hf (fun v18 hf => ?_)
    refine lv_iconst (v := 1) hx hb dX7_readItem_199 (by decide) ?_
    refine lv_iadd hx hb dX7_readItem_200 ?_
    refine x_iast B hw 4 (by decide) (fun _ _ => rfl) dX7_readItem_201 hf (fun S19 H locs hw hf => ?_)
    refine lv_goto (tgt := 221) hx hb dX7_readItem_202 (by decide) ?_
    exact jMod_readItem_b221_ok B S19 hf hw (lv_sub hl [0] rfl)
  · have hf := x_neg hc hf
    refine lv_aload_n hx hb dX7_readItem_146 rfl (lv_at hl 0 rfl) ?_
    refine x_get B hw (Tb := TX7) inX7 0 (by decide) rfl rfl 6 (by decide) u696 (fun _ h => h) rfl dX7_readItem_147 ?_
    refine lv_iconst (v := 5) hx hb dX7_readItem_150 (by decide) ?_
    refine lv_iload_n hx hb dX7_readItem_151 rfl (lv_at hl 1 rfl) ?_
    refine lv_imul hx hb dX7_readItem_152 ?_
    refine lv_iload_n hx hb dX7_readItem_153 rfl (lv_at hl 2 rfl) ?_
    refine lv_iadd hx hb dX7_readItem_154 ?_
    refine lv_aload_n hx hb dX7_readItem_155 rfl (lv_at hl 0 rfl) ?_
    refine lv_bipush (v := 9) hx hb dX7_readItem_156 (by decide) ?_
    obtain ⟨v21, S20, hc, hf⟩ := x_bd_some hf
    refine x_callV B ExM_ok hw 0 (by decide) rfl rfl (As := [.int 9]) (rest := [.int ((5 * x2) + x3), .ref (q 5)]) (st1 := [.int v21, .int ((5 * x2) + x3), .ref (q 5)]) (jMod_number_ok hc) u799 u801 u21 u45 u802 hdX7_number rfl ⟨Nat.le_of_ble_eq_true rfl, Nat.le_of_ble_eq_true rfl⟩ ⟨rfl, rfl⟩ hl.1 (Nat.le_of_ble_eq_true rfl) dX7_readItem_158 (fun H locs hw => ?_) rfl rfl
    refine x_iast B hw 5 (by decide) (fun _ _ => rfl) dX7_readItem_161 hf (fun S22 H locs hw hf => ?_)
    refine lv_iinc (v := x3 + 1) (lv' := [(3, .int (x3 + 1)), (0, .ref (q 0)), (2, .int x2)]) hx hb dX7_readItem_162 hl (k := 2) rfl xi_1 (by decide) rfl (fun ls hl => ?_)
    refine lv_goto (tgt := 141) hx hb dX7_readItem_165 (by decide) ?_
    exact hK141 x2 (x3 + 1) S22 _ _ _ hf hw (lv_sub hl [1, 2, 0] rfl)

theorem jMod_readItem_h141_ok (B : XB p s m args meth c A cX7_readItem 4 none RX7) {SF : St} : ∀ (n : Nat) (x2 : Int32) (x3 : Int32) (S : St) (H : Heap) (locs : List Loc) (ls : Array Slot), jMod_readItem_h141 n x2 x3 S = some SF → Xw D 17 (cellM T q) q T ExM A s S H locs → lv_has ls 4 [(0, .ref (q 0)), (2, .int x2), (3, .int x3)] → XG p l e ({ frames := 4, cells := 0, slots := 0, locals := 87 }) s m args below meth c D 17 (cellM T q) q T A SF none H locs 141 ls [] := by
  intro n
  induction n with
  | zero =>
    intro x2 x3 S H locs ls hf hw hl
    rw [jMod_readItem_h141] at hf
    cases hf
  | succ n ih =>
    intro x2 x3 S H locs ls hf hw hl
    rw [jMod_readItem_h141] at hf
    exact jMod_readItem_b141_ok B (jMod_readItem_h141 n) ih x2 x3 S hf hw hl

set_option maxHeartbeats 4000000 in
theorem jMod_readItem_b84_ok (B : XB p s m args meth c A cX7_readItem 4 none RX7) {SF : St} (K84 : Int32 → Int32 → St → Option (St)) (hK84 : ∀ (x2 : Int32) (x3 : Int32) (S : St) (H : Heap) (locs : List Loc) (ls : Array Slot), K84 x2 x3 S = some SF → Xw D 17 (cellM T q) q T ExM A s S H locs → lv_has ls 4 [(0, .ref (q 0)), (2, .int x2), (3, .int x3)] → XG p l e ({ frames := 4, cells := 0, slots := 0, locals := 87 }) s m args below meth c D 17 (cellM T q) q T A SF none H locs 84 ls [])  (x2 : Int32) (x3 : Int32) (S : St) {H : Heap} {locs : List Loc} {ls : Array Slot} (hf : jMod_readItem_b84 K84 x2 x3 S = some SF) (hw : Xw D 17 (cellM T q) q T ExM A s S H locs) (hl : lv_has ls 4 [(0, .ref (q 0)), (2, .int x2), (3, .int x3)]) : XG p l e ({ frames := 4, cells := 0, slots := 0, locals := 87 }) s m args below meth c D 17 (cellM T q) q T A SF none H locs 84 ls [] := by
  unfold jMod_readItem_b84 at hf
  obtain ⟨hx, hb, hr, hml, hown, hts, hlk, hA⟩ := id B
  refine lv_iload_n hx hb dX7_readItem_84 rfl (lv_at hl 2 rfl) ?_
  refine lv_iconst (v := 5) hx hb dX7_readItem_85 (by decide) ?_
  refine lv_icmp_ge (tgt := 111) hx hb dX7_readItem_86 (by decide) (fun hc => ?_) (fun hc => ?_)
  · have hf := x_pos hc hf
    refine lv_aload_n hx hb dX7_readItem_111 rfl (lv_at hl 0 rfl) ?_
    refine x_get B hw (Tb := TX7) inX7 0 (by decide) rfl rfl 3 (by decide) u693 (fun _ h => h) rfl dX7_readItem_112 ?_
    refine lv_iconst (v := 1) hx hb dX7_readItem_115 (by decide) ?_
    refine lv_dup2_11 hx hb dX7_readItem_116 rfl rfl ?_
    refine x_iald B hw 2 (by decide) rfl dX7_readItem_117 hf (fun v25 hf => ?_)
    refine lv_iconst (v := 1) hx hb dX7_readItem_118 (by decide) ?_
    refine lv_iadd hx hb dX7_readItem_119 ?_
    refine x_iast B hw 2 (by decide) (fun _ _ => rfl) dX7_readItem_120 hf (fun S26 H locs hw hf => ?_)
    refine lv_goto (tgt := 221) hx hb dX7_readItem_121 (by decide) ?_
    exact jMod_readItem_b221_ok B S26 hf hw (lv_sub hl [0] rfl)
  · have hf := x_neg hc hf
    refine lv_aload_n hx hb dX7_readItem_89 rfl (lv_at hl 0 rfl) ?_
    refine x_get B hw (Tb := TX7) inX7 0 (by decide) rfl rfl 4 (by decide) u694 (fun _ h => h) rfl dX7_readItem_90 ?_
    refine lv_iconst (v := 5) hx hb dX7_readItem_93 (by decide) ?_
    refine lv_iload_n hx hb dX7_readItem_94 rfl (lv_at hl 1 rfl) ?_
    refine lv_imul hx hb dX7_readItem_95 ?_
    refine lv_iload_n hx hb dX7_readItem_96 rfl (lv_at hl 2 rfl) ?_
    refine lv_iadd hx hb dX7_readItem_97 ?_
    refine lv_aload_n hx hb dX7_readItem_98 rfl (lv_at hl 0 rfl) ?_
    refine lv_bipush (v := 9) hx hb dX7_readItem_99 (by decide) ?_
    obtain ⟨v28, S27, hc, hf⟩ := x_bd_some hf
    refine x_callV B ExM_ok hw 0 (by decide) rfl rfl (As := [.int 9]) (rest := [.int ((5 * x2) + x3), .ref (q 3)]) (st1 := [.int v28, .int ((5 * x2) + x3), .ref (q 3)]) (jMod_number_ok hc) u799 u801 u21 u45 u802 hdX7_number rfl ⟨Nat.le_of_ble_eq_true rfl, Nat.le_of_ble_eq_true rfl⟩ ⟨rfl, rfl⟩ hl.1 (Nat.le_of_ble_eq_true rfl) dX7_readItem_101 (fun H locs hw => ?_) rfl rfl
    refine x_iast B hw 3 (by decide) (fun _ _ => rfl) dX7_readItem_104 hf (fun S29 H locs hw hf => ?_)
    refine lv_iinc (v := x3 + 1) (lv' := [(3, .int (x3 + 1)), (0, .ref (q 0)), (2, .int x2)]) hx hb dX7_readItem_105 hl (k := 2) rfl xi_1 (by decide) rfl (fun ls hl => ?_)
    refine lv_goto (tgt := 84) hx hb dX7_readItem_108 (by decide) ?_
    exact hK84 x2 (x3 + 1) S29 _ _ _ hf hw (lv_sub hl [1, 2, 0] rfl)

theorem jMod_readItem_h84_ok (B : XB p s m args meth c A cX7_readItem 4 none RX7) {SF : St} : ∀ (n : Nat) (x2 : Int32) (x3 : Int32) (S : St) (H : Heap) (locs : List Loc) (ls : Array Slot), jMod_readItem_h84 n x2 x3 S = some SF → Xw D 17 (cellM T q) q T ExM A s S H locs → lv_has ls 4 [(0, .ref (q 0)), (2, .int x2), (3, .int x3)] → XG p l e ({ frames := 4, cells := 0, slots := 0, locals := 87 }) s m args below meth c D 17 (cellM T q) q T A SF none H locs 84 ls [] := by
  intro n
  induction n with
  | zero =>
    intro x2 x3 S H locs ls hf hw hl
    rw [jMod_readItem_h84] at hf
    cases hf
  | succ n ih =>
    intro x2 x3 S H locs ls hf hw hl
    rw [jMod_readItem_h84] at hf
    exact jMod_readItem_b84_ok B (jMod_readItem_h84 n) ih x2 x3 S hf hw hl

set_option maxHeartbeats 4000000 in
theorem jMod_readItem_b54_ok (B : XB p s m args meth c A cX7_readItem 4 none RX7) {SF : St}  (x1 : Int32) (s0 : Int32) (S : St) {H : Heap} {locs : List Loc} {ls : Array Slot} (hf : jMod_readItem_b54 x1 s0 S = some SF) (hw : Xw D 17 (cellM T q) q T ExM A s S H locs) (hl : lv_has ls 4 [(0, .ref (q 0)), (1, .int x1)]) : XG p l e ({ frames := 4, cells := 0, slots := 0, locals := 87 }) s m args below meth c D 17 (cellM T q) q T A SF none H locs 54 ls [.int s0, .ref (q 0)] := by
  unfold jMod_readItem_b54 at hf
  obtain ⟨hx, hb, hr, hml, hown, hts, hlk, hA⟩ := id B
  obtain ⟨v3, S2, hc, hf⟩ := x_bd_some hf
  refine x_callV B ExM_ok hw 0 (by decide) rfl rfl (As := [.int s0]) (rest := []) (st1 := [.int v3]) (jMod_due_ok hc) u795 u797 u20 u45 u798 hdX7_due rfl ⟨Nat.le_of_ble_eq_true rfl, Nat.le_of_ble_eq_true rfl⟩ ⟨rfl, rfl⟩ hl.1 (Nat.le_of_ble_eq_true rfl) dX7_readItem_54 (fun H locs hw => ?_) rfl rfl
  refine lv_pop hx hb dX7_readItem_57 rfl ?_
  refine lv_aload_n hx hb dX7_readItem_58 rfl (lv_at hl 0 rfl) ?_
  refine x_get B hw (Tb := TX7) inX7 0 (by decide) rfl rfl 14 (by decide) u704 (fun _ h => h) rfl dX7_readItem_59 ?_
  refine lv_bipush (v := (-9)) hx hb dX7_readItem_62 (by decide) ?_
  refine lv_icmp_eq (tgt := 68) hx hb dX7_readItem_64 (by decide) (fun hc => ?_) (fun hc => ?_)
  · have hf := x_pos hc hf
    refine lv_iload_n hx hb dX7_readItem_68 rfl (lv_at hl 1 rfl) ?_
    refine lv_if_ne (tgt := 124) hx hb dX7_readItem_69 (by decide) (fun hc => ?_) (fun hc => ?_)
    · have hf := x_neg hc hf
      refine lv_iload_n hx hb dX7_readItem_124 rfl (lv_at hl 1 rfl) ?_
      refine lv_iconst (v := 1) hx hb dX7_readItem_125 (by decide) ?_
      refine lv_icmp_ne (tgt := 205) hx hb dX7_readItem_126 (by decide) (fun hc => ?_) (fun hc => ?_)
      · have hf := x_neg hc hf
        refine lv_aload_n hx hb dX7_readItem_205 rfl (lv_at hl 0 rfl) ?_
        refine x_get B hw (Tb := TX7) inX7 0 (by decide) rfl rfl 9 (by decide) u699 (fun _ h => h) rfl dX7_readItem_206 ?_
        refine lv_iconst (v := 1) hx hb dX7_readItem_209 (by decide) ?_
        refine lv_aload_n hx hb dX7_readItem_210 rfl (lv_at hl 0 rfl) ?_
        refine lv_iconst (v := 5) hx hb dX7_readItem_211 (by decide) ?_
        obtain ⟨v5, S4, hc, hf⟩ := x_bd_some hf
        refine x_callV B ExM_ok hw 0 (by decide) rfl rfl (As := [.int 5]) (rest := [.int 1, .ref (q 8)]) (st1 := [.int v5, .int 1, .ref (q 8)]) (jMod_number_ok hc) u799 u801 u21 u45 u802 hdX7_number rfl ⟨Nat.le_of_ble_eq_true rfl, Nat.le_of_ble_eq_true rfl⟩ ⟨rfl, rfl⟩ hl.1 (Nat.le_of_ble_eq_true rfl) dX7_readItem_212 (fun H locs hw => ?_) rfl rfl
        refine x_iast B hw 8 (by decide) (fun _ _ => rfl) dX7_readItem_215 hf (fun S6 H locs hw hf => ?_)
        refine lv_aload_n hx hb dX7_readItem_216 rfl (lv_at hl 0 rfl) ?_
        refine lv_iconst (v := 1) hx hb dX7_readItem_217 (by decide) ?_
        refine x_put B hw (Tb := TX7) inX7 tyX7 tyX7_ok nmX7 0 (by decide) rfl rfl 15 (by decide) u705 (fun _ h => h) rfl (ty := .boolean) (by decide +kernel) rfl rfl (Nat.le_of_ble_eq_true rfl) (S1 := upI S6 0 15 1) rfl upI_o (fun _ _ => rfl) dX7_readItem_218 hf (fun S7 H locs hw hf => ?_)
        exact jMod_readItem_b221_ok B S7 hf hw (lv_sub hl [0] rfl)
      · have hf := x_pos hc hf
        refine lv_bipush (v := 8) hx hb dX7_readItem_129 (by decide) ?_
        refine lv_aload_n hx hb dX7_readItem_131 rfl (lv_at hl 0 rfl) ?_
        refine x_get B hw (Tb := TX7) inX7 0 (by decide) rfl rfl 5 (by decide) u695 (fun _ h => h) rfl dX7_readItem_132 ?_
        refine lv_iconst (v := 1) hx hb dX7_readItem_135 (by decide) ?_
        refine x_iald B hw 4 (by decide) rfl dX7_readItem_136 hf (fun v10 hf => ?_)
        refine lv_iadd hx hb dX7_readItem_137 ?_
        refine x_leti hf (fun v11 hf => ?_)
        refine lv_istore_n (lv' := [(2, .int v11), (0, .ref (q 0)), (1, .int x1)]) hx hb dX7_readItem_138 rfl hl (by decide) rfl (fun ls hl => ?_)
        refine lv_iconst (v := 0) hx hb dX7_readItem_139 (by decide) ?_
        refine lv_istore_n (lv' := [(3, .int 0), (2, .int v11), (0, .ref (q 0)), (1, .int x1)]) hx hb dX7_readItem_140 rfl hl (by decide) rfl (fun ls hl => ?_)
        exact jMod_readItem_h141_ok B FU v11 0 S2 _ _ _ hf hw (lv_sub hl [2, 1, 0] rfl)
    · have hf := x_pos hc hf
      refine lv_bipush (v := 6) hx hb dX7_readItem_72 (by decide) ?_
      refine lv_aload_n hx hb dX7_readItem_74 rfl (lv_at hl 0 rfl) ?_
      refine x_get B hw (Tb := TX7) inX7 0 (by decide) rfl rfl 3 (by decide) u693 (fun _ h => h) rfl dX7_readItem_75 ?_
      refine lv_iconst (v := 1) hx hb dX7_readItem_78 (by decide) ?_
      refine x_iald B hw 2 (by decide) rfl dX7_readItem_79 hf (fun v23 hf => ?_)
      refine lv_iadd hx hb dX7_readItem_80 ?_
      refine x_leti hf (fun v24 hf => ?_)
      refine lv_istore_n (lv' := [(2, .int v24), (0, .ref (q 0)), (1, .int x1)]) hx hb dX7_readItem_81 rfl hl (by decide) rfl (fun ls hl => ?_)
      refine lv_iconst (v := 0) hx hb dX7_readItem_82 (by decide) ?_
      refine lv_istore_n (lv' := [(3, .int 0), (2, .int v24), (0, .ref (q 0)), (1, .int x1)]) hx hb dX7_readItem_83 rfl hl (by decide) rfl (fun ls hl => ?_)
      exact jMod_readItem_h84_ok B FU v24 0 S2 _ _ _ hf hw (lv_sub hl [2, 1, 0] rfl)
  · have hf := x_neg hc hf
    exact x_vret B hw hf dX7_readItem_67

set_option maxHeartbeats 4000000 in
theorem jMod_readItem_b37_ok (B : XB p s m args meth c A cX7_readItem 4 none RX7) {SF : St}  (x1 : Int32) (S : St) {H : Heap} {locs : List Loc} {ls : Array Slot} (hf : jMod_readItem_b37 x1 S = some SF) (hw : Xw D 17 (cellM T q) q T ExM A s S H locs) (hl : lv_has ls 4 [(0, .ref (q 0)), (1, .int x1)]) : XG p l e ({ frames := 4, cells := 0, slots := 0, locals := 87 }) s m args below meth c D 17 (cellM T q) q T A SF none H locs 37 ls [.ref (q 0)] := by
  unfold jMod_readItem_b37 at hf
  obtain ⟨hx, hb, hr, hml, hown, hts, hlk, hA⟩ := id B
  refine lv_iload_n hx hb dX7_readItem_37 rfl (lv_at hl 1 rfl) ?_
  refine lv_iconst (v := 2) hx hb dX7_readItem_38 (by decide) ?_
  refine lv_icmp_ne (tgt := 53) hx hb dX7_readItem_39 (by decide) (fun hc => ?_) (fun hc => ?_)
  · have hf := x_neg hc hf
    refine lv_iconst (v := 0) hx hb dX7_readItem_53 (by decide) ?_
    exact jMod_readItem_b54_ok B x1 0 S hf hw (lv_sub hl [0, 1] rfl)
  · have hf := x_pos hc hf
    refine lv_aload_n hx hb dX7_readItem_42 rfl (lv_at hl 0 rfl) ?_
    refine x_get B hw (Tb := TX7) inX7 0 (by decide) rfl rfl 15 (by decide) u705 (fun _ h => h) rfl dX7_readItem_43 ?_
    refine lv_if_ne (tgt := 53) hx hb dX7_readItem_46 (by decide) (fun hc => ?_) (fun hc => ?_)
    · have hf := x_neg hc hf
      refine lv_iconst (v := 0) hx hb dX7_readItem_53 (by decide) ?_
      exact jMod_readItem_b54_ok B x1 0 S hf hw (lv_sub hl [0, 1] rfl)
    · have hf := x_pos hc hf
      refine lv_iconst (v := 1) hx hb dX7_readItem_49 (by decide) ?_
      refine lv_goto (tgt := 54) hx hb dX7_readItem_50 (by decide) ?_
      exact jMod_readItem_b54_ok B x1 1 S hf hw (lv_sub hl [0, 1] rfl)

set_option maxHeartbeats 4000000 in
theorem jMod_readItem_b21_ok (B : XB p s m args meth c A cX7_readItem 4 none RX7) {SF : St}  (x1 : Int32) (S : St) {H : Heap} {locs : List Loc} {ls : Array Slot} (hf : jMod_readItem_b21 x1 S = some SF) (hw : Xw D 17 (cellM T q) q T ExM A s S H locs) (hl : lv_has ls 4 [(0, .ref (q 0)), (1, .int x1)]) : XG p l e ({ frames := 4, cells := 0, slots := 0, locals := 87 }) s m args below meth c D 17 (cellM T q) q T A SF none H locs 21 ls [.ref (q 0)] := by
  unfold jMod_readItem_b21 at hf
  obtain ⟨hx, hb, hr, hml, hown, hts, hlk, hA⟩ := id B
  refine lv_iload_n hx hb dX7_readItem_21 rfl (lv_at hl 1 rfl) ?_
  refine lv_iconst (v := 1) hx hb dX7_readItem_22 (by decide) ?_
  refine lv_icmp_ne (tgt := 37) hx hb dX7_readItem_23 (by decide) (fun hc => ?_) (fun hc => ?_)
  · have hf := x_neg hc hf
    exact jMod_readItem_b37_ok B x1 S hf hw (lv_sub hl [0, 1] rfl)
  · have hf := x_pos hc hf
    refine lv_aload_n hx hb dX7_readItem_26 rfl (lv_at hl 0 rfl) ?_
    refine x_get B hw (Tb := TX7) inX7 0 (by decide) rfl rfl 5 (by decide) u695 (fun _ h => h) rfl dX7_readItem_27 ?_
    refine lv_iconst (v := 1) hx hb dX7_readItem_30 (by decide) ?_
    refine x_iald B hw 4 (by decide) rfl dX7_readItem_31 hf (fun v30 hf => ?_)
    refine lv_bipush (v := 8) hx hb dX7_readItem_32 (by decide) ?_
    refine lv_icmp_lt (tgt := 49) hx hb dX7_readItem_34 (by decide) (fun hc => ?_) (fun hc => ?_)
    · have hf := x_pos hc hf
      refine lv_iconst (v := 1) hx hb dX7_readItem_49 (by decide) ?_
      refine lv_goto (tgt := 54) hx hb dX7_readItem_50 (by decide) ?_
      exact jMod_readItem_b54_ok B x1 1 S hf hw (lv_sub hl [0, 1] rfl)
    · have hf := x_neg hc hf
      exact jMod_readItem_b37_ok B x1 S hf hw (lv_sub hl [0, 1] rfl)

set_option maxHeartbeats 4000000 in
theorem jMod_readItem_b0_ok (B : XB p s m args meth c A cX7_readItem 4 none RX7) {SF : St}  (S : St) {H : Heap} {locs : List Loc} {ls : Array Slot} (hf : jMod_readItem S = some SF) (hw : Xw D 17 (cellM T q) q T ExM A s S H locs) (hl : lv_has ls 4 [(0, .ref (q 0))]) : XG p l e ({ frames := 4, cells := 0, slots := 0, locals := 87 }) s m args below meth c D 17 (cellM T q) q T A SF none H locs 0 ls [] := by
  unfold jMod_readItem at hf
  obtain ⟨hx, hb, hr, hml, hown, hts, hlk, hA⟩ := id B
  refine lv_aload_n hx hb dX7_readItem_0 rfl (lv_at hl 0 rfl) ?_
  refine x_get B hw (Tb := TX7) inX7 0 (by decide) rfl rfl 12 (by decide) u702 (fun _ h => h) rfl dX7_readItem_1 ?_
  refine x_leti hf (fun v1 hf => ?_)
  refine lv_istore_n (lv' := [(1, .int v1), (0, .ref (q 0))]) hx hb dX7_readItem_4 rfl hl (by decide) rfl (fun ls hl => ?_)
  refine lv_aload_n hx hb dX7_readItem_5 rfl (lv_at hl 1 rfl) ?_
  refine lv_iload_n hx hb dX7_readItem_6 rfl (lv_at hl 0 rfl) ?_
  refine lv_if_ne (tgt := 21) hx hb dX7_readItem_7 (by decide) (fun hc => ?_) (fun hc => ?_)
  · have hf := x_neg hc hf
    exact jMod_readItem_b21_ok B v1 S hf hw (lv_sub hl [1, 0] rfl)
  · have hf := x_pos hc hf
    refine lv_aload_n hx hb dX7_readItem_10 rfl (lv_at hl 1 rfl) ?_
    refine x_get B hw (Tb := TX7) inX7 0 (by decide) rfl rfl 3 (by decide) u693 (fun _ h => h) rfl dX7_readItem_11 ?_
    refine lv_iconst (v := 1) hx hb dX7_readItem_14 (by decide) ?_
    refine x_iald B hw 2 (by decide) rfl dX7_readItem_15 hf (fun v31 hf => ?_)
    refine lv_bipush (v := 6) hx hb dX7_readItem_16 (by decide) ?_
    refine lv_icmp_lt (tgt := 49) hx hb dX7_readItem_18 (by decide) (fun hc => ?_) (fun hc => ?_)
    · have hf := x_pos hc hf
      refine lv_iconst (v := 1) hx hb dX7_readItem_49 (by decide) ?_
      refine lv_goto (tgt := 54) hx hb dX7_readItem_50 (by decide) ?_
      exact jMod_readItem_b54_ok B v1 1 S hf hw (lv_sub hl [1, 0] rfl)
    · have hf := x_neg hc hf
      exact jMod_readItem_b21_ok B v1 S hf hw (lv_sub hl [1, 0] rfl)

set_option maxHeartbeats 4000000 in
theorem jMod_readItem_ok {S SF : St} (hf : jMod_readItem S = some SF) : XMet l D 17 (cellM T q) q T ExM yX7_readItem cX7_readItem 4 none ({ frames := 4, cells := 0, slots := 0, locals := 87 }) [.ref (q 0)] S none SF := by
  refine x_enter (own := RX7) (by decide +kernel) rfl (Nat.le_of_ble_eq_true rfl) (fun p e s m below meth c A B ls hw hl0 => ?_)
  have hl : lv_has ls 4 [(0, .ref (q 0))] := hl0
  exact jMod_readItem_b0_ok B S hf hw hl
end
