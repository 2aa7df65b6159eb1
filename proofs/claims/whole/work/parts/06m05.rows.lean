section
variable {p : Program} {l : Launch} {e : Env} {s : State} {m : MethodId} {args : Array Value} {below : List Frame} {meth : Method} {c : Code} {D : va_G} {q aK aV : Nat → Nat} {T : Nat → ClassId} {A : Nat → Prop}
set_option maxHeartbeats 4000000 in
theorem jMod_code_b78_ok (B : XB p s m args meth c A cX7_code 8 (some .int) RX7) {SF : St} {r : Int32} (K50 : Int32 → Int32 → Int32 → Int32 → Int32 → Int32 → St → Option (Int32 × St)) (hK50 : ∀ (x1 : Int32) (x2 : Int32) (x3 : Int32) (x4 : Int32) (x5 : Int32) (x6 : Int32) (S : St) (H : Heap) (locs : List Loc) (ls : Array Slot), K50 x1 x2 x3 x4 x5 x6 S = some (r, SF) → Xw D 17 (cellM T q) q T ExM A s S H locs → lv_has ls 8 [(0, .ref (q 0)), (1, .int x1), (2, .int x2), (3, .int x3), (4, .int x4), (5, .int x5), (6, .int x6)] → XG p l e ({ frames := 2, cells := 0, slots := 0, locals := 48 }) s m args below meth c D 17 (cellM T q) q T A SF (some (.int r)) H locs 50 ls [])  (x1 : Int32) (x2 : Int32) (x3 : Int32) (x5 : Int32) (x6 : Int32) (x7 : Int32) (s0 : Int32) (S : St) {H : Heap} {locs : List Loc} {ls : Array Slot} (hf : jMod_code_b78 K50 x1 x2 x3 x5 x6 x7 s0 S = some (r, SF)) (hw : Xw D 17 (cellM T q) q T ExM A s S H locs) (hl : lv_has ls 8 [(0, .ref (q 0)), (1, .int x1), (2, .int x2), (3, .int x3), (5, .int x5), (6, .int x6), (7, .int x7)]) : XG p l e ({ frames := 2, cells := 0, slots := 0, locals := 48 }) s m args below meth c D 17 (cellM T q) q T A SF (some (.int r)) H locs 78 ls [.int s0] := by
  unfold jMod_code_b78 at hf
  obtain ⟨hx, hb, hr, hml, hown, hts, hlk, hA⟩ := id B
  refine lv_istore (lv' := [(4, .int s0), (0, .ref (q 0)), (1, .int x1), (2, .int x2), (3, .int x3), (5, .int x5), (6, .int x6), (7, .int x7)]) hx hb dX7_code_78 hl (by decide) rfl (fun ls hl => ?_)
  refine lv_iload hx hb dX7_code_80 (lv_at hl 7 rfl) ?_
  refine lv_bipush (v := (-9)) hx hb dX7_code_82 (by decide) ?_
  refine lv_icmp_eq (tgt := 105) hx hb dX7_code_84 (by decide) (fun hc => ?_) (fun hc => ?_)
  · have hf := x_pos hc hf
    refine lv_iload hx hb dX7_code_105 (lv_at hl 5 rfl) ?_
    refine lv_istore (lv' := [(5, .int x5), (4, .int s0), (0, .ref (q 0)), (1, .int x1), (2, .int x2), (3, .int x3), (6, .int x6), (7, .int x7)]) hx hb dX7_code_107 hl (by decide) rfl (fun ls hl => ?_)
    refine lv_iinc (v := x6 + (-1)) (lv' := [(6, .int (x6 + (-1))), (5, .int x5), (4, .int s0), (0, .ref (q 0)), (1, .int x1), (2, .int x2), (3, .int x3), (7, .int x7)]) hx hb dX7_code_109 hl (k := 6) rfl xi_m1 (by decide) rfl (fun ls hl => ?_)
    refine lv_goto (tgt := 50) hx hb dX7_code_112 (by decide) ?_
    exact hK50 x1 x2 x3 s0 x5 (x6 + (-1)) S _ _ _ hf hw (lv_sub hl [3, 4, 5, 6, 2, 1, 0] rfl)
  · have hf := x_neg hc hf
    refine lv_iload hx hb dX7_code_87 (lv_at hl 6 rfl) ?_
    obtain ⟨v12, S11, hc, hf⟩ := x_bd_some hf
    refine x_callS B ExM_ok hw (As := [.int x6]) (rest := []) (st1 := [.int v12]) (jMod_bitsIn_ok hc) u882 u883 u45 u884 hdX7_bitsIn rfl ⟨Nat.le_of_ble_eq_true rfl, Nat.le_of_ble_eq_true rfl⟩ ⟨rfl, rfl⟩ hl.1 (Nat.le_of_ble_eq_true rfl) dX7_code_89 (fun H locs hw => ?_) rfl rfl
    refine lv_iload hx hb dX7_code_92 (lv_at hl 5 rfl) ?_
    refine lv_icmp_le (tgt := 105) hx hb dX7_code_94 (by decide) (fun hc => ?_) (fun hc => ?_)
    · have hf := x_pos hc hf
      refine lv_iload hx hb dX7_code_105 (lv_at hl 5 rfl) ?_
      refine lv_istore (lv' := [(5, .int x5), (4, .int s0), (0, .ref (q 0)), (1, .int x1), (2, .int x2), (3, .int x3), (6, .int x6), (7, .int x7)]) hx hb dX7_code_107 hl (by decide) rfl (fun ls hl => ?_)
      refine lv_iinc (v := x6 + (-1)) (lv' := [(6, .int (x6 + (-1))), (5, .int x5), (4, .int s0), (0, .ref (q 0)), (1, .int x1), (2, .int x2), (3, .int x3), (7, .int x7)]) hx hb dX7_code_109 hl (k := 6) rfl xi_m1 (by decide) rfl (fun ls hl => ?_)
      refine lv_goto (tgt := 50) hx hb dX7_code_112 (by decide) ?_
      exact hK50 x1 x2 x3 s0 x5 (x6 + (-1)) S11 _ _ _ hf hw (lv_sub hl [3, 4, 5, 6, 2, 1, 0] rfl)
    · have hf := x_neg hc hf
      refine lv_iload hx hb dX7_code_97 (lv_at hl 6 rfl) ?_
      obtain ⟨v14, S13, hc, hf⟩ := x_bd_some hf
      refine x_callS B ExM_ok hw (As := [.int x6]) (rest := []) (st1 := [.int v14]) (jMod_bitsIn_ok hc) u882 u883 u45 u884 hdX7_bitsIn rfl ⟨Nat.le_of_ble_eq_true rfl, Nat.le_of_ble_eq_true rfl⟩ ⟨rfl, rfl⟩ hl.1 (Nat.le_of_ble_eq_true rfl) dX7_code_99 (fun H locs hw => ?_) rfl rfl
      refine lv_goto (tgt := 107) hx hb dX7_code_102 (by decide) ?_
      refine lv_istore (lv' := [(5, .int v14), (4, .int s0), (0, .ref (q 0)), (1, .int x1), (2, .int x2), (3, .int x3), (6, .int x6), (7, .int x7)]) hx hb dX7_code_107 hl (by decide) rfl (fun ls hl => ?_)
      refine lv_iinc (v := x6 + (-1)) (lv' := [(6, .int (x6 + (-1))), (5, .int v14), (4, .int s0), (0, .ref (q 0)), (1, .int x1), (2, .int x2), (3, .int x3), (7, .int x7)]) hx hb dX7_code_109 hl (k := 6) rfl xi_m1 (by decide) rfl (fun ls hl => ?_)
      refine lv_goto (tgt := 50) hx hb dX7_code_112 (by decide) ?_
      exact hK50 x1 x2 x3 s0 v14 (x6 + (-1)) S13 _ _ _ hf hw (lv_sub hl [3, 4, 5, 6, 2, 1, 0] rfl)

set_option maxHeartbeats 4000000 in
theorem jMod_code_b50_ok (B : XB p s m args meth c A cX7_code 8 (some .int) RX7) {SF : St} {r : Int32} (K50 : Int32 → Int32 → Int32 → Int32 → Int32 → Int32 → St → Option (Int32 × St)) (hK50 : ∀ (x1 : Int32) (x2 : Int32) (x3 : Int32) (x4 : Int32) (x5 : Int32) (x6 : Int32) (S : St) (H : Heap) (locs : List Loc) (ls : Array Slot), K50 x1 x2 x3 x4 x5 x6 S = some (r, SF) → Xw D 17 (cellM T q) q T ExM A s S H locs → lv_has ls 8 [(0, .ref (q 0)), (1, .int x1), (2, .int x2), (3, .int x3), (4, .int x4), (5, .int x5), (6, .int x6)] → XG p l e ({ frames := 2, cells := 0, slots := 0, locals := 48 }) s m args below meth c D 17 (cellM T q) q T A SF (some (.int r)) H locs 50 ls [])  (x1 : Int32) (x2 : Int32) (x3 : Int32) (x4 : Int32) (x5 : Int32) (x6 : Int32) (S : St) {H : Heap} {locs : List Loc} {ls : Array Slot} (hf : jMod_code_b50 K50 x1 x2 x3 x4 x5 x6 S = some (r, SF)) (hw : Xw D 17 (cellM T q) q T ExM A s S H locs) (hl : lv_has ls 8 [(0, .ref (q 0)), (1, .int x1), (2, .int x2), (3, .int x3), (4, .int x4), (5, .int x5), (6, .int x6)]) : XG p l e ({ frames := 2, cells := 0, slots := 0, locals := 48 }) s m args below meth c D 17 (cellM T q) q T A SF (some (.int r)) H locs 50 ls [] := by
  unfold jMod_code_b50 at hf
  obtain ⟨hx, hb, hr, hml, hown, hts, hlk, hA⟩ := id B
  refine lv_iload hx hb dX7_code_50 (lv_at hl 6 rfl) ?_
  refine lv_if_lt (tgt := 115) hx hb dX7_code_52 (by decide) (fun hc => ?_) (fun hc => ?_)
  · have hf := x_pos hc hf
    refine lv_iload_n hx hb dX7_code_115 rfl (lv_at hl 3 rfl) ?_
    refine lv_if_ne (tgt := 124) hx hb dX7_code_116 (by decide) (fun hc => ?_) (fun hc => ?_)
    · have hf := x_neg hc hf
      refine lv_iload hx hb dX7_code_124 (lv_at hl 5 rfl) ?_
      exact x_iret B hw hf dX7_code_126
    · have hf := x_pos hc hf
      refine lv_iload hx hb dX7_code_119 (lv_at hl 4 rfl) ?_
      refine lv_goto (tgt := 126) hx hb dX7_code_121 (by decide) ?_
      exact x_iret B hw hf dX7_code_126
  · have hf := x_neg hc hf
    refine lv_aload_n hx hb dX7_code_55 rfl (lv_at hl 0 rfl) ?_
    refine lv_iload hx hb dX7_code_56 (lv_at hl 6 rfl) ?_
    refine lv_iload_n hx hb dX7_code_58 rfl (lv_at hl 1 rfl) ?_
    refine lv_iload_n hx hb dX7_code_59 rfl (lv_at hl 2 rfl) ?_
    obtain ⟨v10, S9, hc, hf⟩ := x_bd_some hf
    refine x_callV B ExM_ok hw 0 (by decide) rfl rfl (As := [.int x6, .int x1, .int x2]) (rest := []) (st1 := [.int v10]) (jMod_saidBy_ok hc) u933 u935 u35 u45 u936 hdX7_saidBy rfl ⟨Nat.le_of_ble_eq_true rfl, Nat.le_of_ble_eq_true rfl⟩ ⟨rfl, rfl⟩ hl.1 (Nat.le_of_ble_eq_true rfl) dX7_code_60 (fun H locs hw => ?_) rfl rfl
    refine lv_istore (lv' := [(7, .int v10), (0, .ref (q 0)), (1, .int x1), (2, .int x2), (3, .int x3), (4, .int x4), (5, .int x5), (6, .int x6)]) hx hb dX7_code_63 hl (by decide) rfl (fun ls hl => ?_)
    refine lv_iload hx hb dX7_code_65 (lv_at hl 0 rfl) ?_
    refine lv_iload_n hx hb dX7_code_67 rfl (lv_at hl 2 rfl) ?_
    refine lv_icmp_ne (tgt := 76) hx hb dX7_code_68 (by decide) (fun hc => ?_) (fun hc => ?_)
    · have hf := x_neg hc hf
      refine lv_iload hx hb dX7_code_76 (lv_at hl 5 rfl) ?_
      exact jMod_code_b78_ok B K50 hK50 x1 x2 x3 x5 x6 v10 x4 S9 hf hw (lv_sub hl [1, 2, 3, 4, 6, 7, 0] rfl)
    · have hf := x_pos hc hf
      refine lv_iload hx hb dX7_code_71 (lv_at hl 7 rfl) ?_
      refine lv_goto (tgt := 78) hx hb dX7_code_73 (by decide) ?_
      exact jMod_code_b78_ok B K50 hK50 x1 x2 x3 x5 x6 v10 x6 S9 hf hw (lv_sub hl [1, 2, 3, 4, 6, 7, 0] rfl)

theorem jMod_code_h50_ok (B : XB p s m args meth c A cX7_code 8 (some .int) RX7) {SF : St} {r : Int32} : ∀ (n : Nat) (x1 : Int32) (x2 : Int32) (x3 : Int32) (x4 : Int32) (x5 : Int32) (x6 : Int32) (S : St) (H : Heap) (locs : List Loc) (ls : Array Slot), jMod_code_h50 n x1 x2 x3 x4 x5 x6 S = some (r, SF) → Xw D 17 (cellM T q) q T ExM A s S H locs → lv_has ls 8 [(0, .ref (q 0)), (1, .int x1), (2, .int x2), (3, .int x3), (4, .int x4), (5, .int x5), (6, .int x6)] → XG p l e ({ frames := 2, cells := 0, slots := 0, locals := 48 }) s m args below meth c D 17 (cellM T q) q T A SF (some (.int r)) H locs 50 ls [] := by
  intro n
  induction n with
  | zero =>
    intro x1 x2 x3 x4 x5 x6 S H locs ls hf hw hl
    rw [jMod_code_h50] at hf
    cases hf
  | succ n ih =>
    intro x1 x2 x3 x4 x5 x6 S H locs ls hf hw hl
    rw [jMod_code_h50] at hf
    exact jMod_code_b50_ok B (jMod_code_h50 n) ih x1 x2 x3 x4 x5 x6 S hf hw hl

set_option maxHeartbeats 4000000 in
theorem jMod_code_b0_ok (B : XB p s m args meth c A cX7_code 8 (some .int) RX7) {SF : St} {r : Int32}  (x1 : Int32) (x2 : Int32) (x3 : Int32) (S : St) {H : Heap} {locs : List Loc} {ls : Array Slot} (hf : jMod_code x1 x2 x3 S = some (r, SF)) (hw : Xw D 17 (cellM T q) q T ExM A s S H locs) (hl : lv_has ls 8 [(0, .ref (q 0)), (1, .int x1), (2, .int x2), (3, .int x3)]) : XG p l e ({ frames := 2, cells := 0, slots := 0, locals := 48 }) s m args below meth c D 17 (cellM T q) q T A SF (some (.int r)) H locs 0 ls [] := by
  unfold jMod_code at hf
  obtain ⟨hx, hb, hr, hml, hown, hts, hlk, hA⟩ := id B
  refine lv_iload_n hx hb dX7_code_0 rfl (lv_at hl 1 rfl) ?_
  refine lv_iconst (v := 0) hx hb dX7_code_1 (by decide) ?_
  refine lv_sipush (v := 255) hx hb dX7_code_2 (by decide) ?_
  obtain ⟨v2, S1, hc, hf⟩ := x_bd_some hf
  refine x_callS B ExM_ok hw (As := [.int x1, .int 0, .int 255]) (rest := []) (st1 := [.int v2]) (jMod_in_ok hc) u768 u769 u45 u770 hdX7_in rfl ⟨Nat.le_of_ble_eq_true rfl, Nat.le_of_ble_eq_true rfl⟩ ⟨rfl, rfl⟩ hl.1 (Nat.le_of_ble_eq_true rfl) dX7_code_5 (fun H locs hw => ?_) rfl rfl
  refine lv_if_eq (tgt := 29) hx hb dX7_code_8 (by decide) (fun hc => ?_) (fun hc => ?_)
  · have hf := x_pos hc hf
    refine lv_iconst (v := (-1)) hx hb dX7_code_29 (by decide) ?_
    exact x_iret B hw hf dX7_code_30
  · have hf := x_neg hc hf
    refine lv_iload_n hx hb dX7_code_11 rfl (lv_at hl 2 rfl) ?_
    refine lv_iconst (v := 1) hx hb dX7_code_12 (by decide) ?_
    refine lv_iconst (v := 3) hx hb dX7_code_13 (by decide) ?_
    obtain ⟨v4, S3, hc, hf⟩ := x_bd_some hf
    refine x_callS B ExM_ok hw (As := [.int x2, .int 1, .int 3]) (rest := []) (st1 := [.int v4]) (jMod_in_ok hc) u768 u769 u45 u770 hdX7_in rfl ⟨Nat.le_of_ble_eq_true rfl, Nat.le_of_ble_eq_true rfl⟩ ⟨rfl, rfl⟩ hl.1 (Nat.le_of_ble_eq_true rfl) dX7_code_14 (fun H locs hw => ?_) rfl rfl
    refine lv_if_eq (tgt := 29) hx hb dX7_code_17 (by decide) (fun hc => ?_) (fun hc => ?_)
    · have hf := x_pos hc hf
      refine lv_iconst (v := (-1)) hx hb dX7_code_29 (by decide) ?_
      exact x_iret B hw hf dX7_code_30
    · have hf := x_neg hc hf
      refine lv_iload_n hx hb dX7_code_20 rfl (lv_at hl 3 rfl) ?_
      refine lv_iconst (v := 0) hx hb dX7_code_21 (by decide) ?_
      refine lv_iconst (v := 1) hx hb dX7_code_22 (by decide) ?_
      obtain ⟨v6, S5, hc, hf⟩ := x_bd_some hf
      refine x_callS B ExM_ok hw (As := [.int x3, .int 0, .int 1]) (rest := []) (st1 := [.int v6]) (jMod_in_ok hc) u768 u769 u45 u770 hdX7_in rfl ⟨Nat.le_of_ble_eq_true rfl, Nat.le_of_ble_eq_true rfl⟩ ⟨rfl, rfl⟩ hl.1 (Nat.le_of_ble_eq_true rfl) dX7_code_23 (fun H locs hw => ?_) rfl rfl
      refine lv_if_ne (tgt := 31) hx hb dX7_code_26 (by decide) (fun hc => ?_) (fun hc => ?_)
      · have hf := x_neg hc hf
        refine lv_bipush (v := (-9)) hx hb dX7_code_31 (by decide) ?_
        refine lv_istore (lv' := [(4, .int (-9)), (0, .ref (q 0)), (1, .int x1), (2, .int x2), (3, .int x3)]) hx hb dX7_code_33 hl (by decide) rfl (fun ls hl => ?_)
        refine lv_iconst (v := 0) hx hb dX7_code_35 (by decide) ?_
        refine lv_istore (lv' := [(5, .int 0), (4, .int (-9)), (0, .ref (q 0)), (1, .int x1), (2, .int x2), (3, .int x3)]) hx hb dX7_code_36 hl (by decide) rfl (fun ls hl => ?_)
        refine lv_iconst (v := 1) hx hb dX7_code_38 (by decide) ?_
        refine lv_aload_n hx hb dX7_code_39 rfl (lv_at hl 2 rfl) ?_
        refine x_get B hw (Tb := TX7) inX7 0 (by decide) rfl rfl 5 (by decide) u695 (fun _ h => h) rfl dX7_code_40 ?_
        refine lv_iconst (v := 0) hx hb dX7_code_43 (by decide) ?_
        refine x_iald B hw 4 (by decide) rfl dX7_code_44 hf (fun v7 hf => ?_)
        refine lv_ishl hx hb dX7_code_45 ?_
        refine lv_iconst (v := 1) hx hb dX7_code_46 (by decide) ?_
        refine lv_isub hx hb dX7_code_47 ?_
        refine x_leti hf (fun v8 hf => ?_)
        refine lv_istore (lv' := [(6, .int v8), (5, .int 0), (4, .int (-9)), (0, .ref (q 0)), (1, .int x1), (2, .int x2), (3, .int x3)]) hx hb dX7_code_48 hl (by decide) rfl (fun ls hl => ?_)
        exact jMod_code_h50_ok B FU x1 x2 x3 (-9) 0 v8 S5 _ _ _ hf hw (lv_sub hl [3, 4, 5, 6, 2, 1, 0] rfl)
      · have hf := x_pos hc hf
        refine lv_iconst (v := (-1)) hx hb dX7_code_29 (by decide) ?_
        exact x_iret B hw hf dX7_code_30

set_option maxHeartbeats 4000000 in
theorem jMod_code_ok {x1 : Int32} {x2 : Int32} {x3 : Int32} {S SF : St} {r : Int32} (hf : jMod_code x1 x2 x3 S = some (r, SF)) : XMet l D 17 (cellM T q) q T ExM yX7_code cX7_code 8 (some .int) ({ frames := 2, cells := 0, slots := 0, locals := 48 }) [.ref (q 0), .int x1, .int x2, .int x3] S (some (.int r)) SF := by
  refine x_enter (own := RX7) (by decide +kernel) rfl (Nat.le_of_ble_eq_true rfl) (fun p e s m below meth c A B ls hw hl0 => ?_)
  have hl : lv_has ls 8 [(0, .ref (q 0)), (1, .int x1), (2, .int x2), (3, .int x3)] := hl0
  exact jMod_code_b0_ok B x1 x2 x3 S hf hw hl

set_option maxHeartbeats 4000000 in
theorem jMod_feast_b71_ok (B : XB p s m args meth c A cX7_feast 7 (some .int) RX7) {SF : St} {r : Int32} (K37 : Int32 → Int32 → Int32 → Int32 → Int32 → St → Option (Int32 × St)) (hK37 : ∀ (x2 : Int32) (x3 : Int32) (x4 : Int32) (x5 : Int32) (x6 : Int32) (S : St) (H : Heap) (locs : List Loc) (ls : Array Slot), K37 x2 x3 x4 x5 x6 S = some (r, SF) → Xw D 17 (cellM T q) q T ExM A s S H locs → lv_has ls 7 [(0, .ref (q 0)), (2, .int x2), (3, .int x3), (4, .int x4), (5, .int x5), (6, .int x6)] → XG p l e ({ frames := 1, cells := 0, slots := 0, locals := 22 }) s m args below meth c D 17 (cellM T q) q T A SF (some (.int r)) H locs 37 ls [])  (x2 : Int32) (x3 : Int32) (x5 : Int32) (x6 : Int32) (s0 : Int32) (s1 : Int32) (S : St) {H : Heap} {locs : List Loc} {ls : Array Slot} (hf : jMod_feast_b71 K37 x2 x3 x5 x6 s0 s1 S = some (r, SF)) (hw : Xw D 17 (cellM T q) q T ExM A s S H locs) (hl : lv_has ls 7 [(0, .ref (q 0)), (2, .int x2), (3, .int x3), (5, .int x5), (6, .int x6)]) : XG p l e ({ frames := 1, cells := 0, slots := 0, locals := 22 }) s m args below meth c D 17 (cellM T q) q T A SF (some (.int r)) H locs 71 ls [.int s0, .int s1] := by
  unfold jMod_feast_b71 at hf
  obtain ⟨hx, hb, hr, hml, hown, hts, hlk, hA⟩ := id B
  refine lv_ior hx hb dX7_feast_71 ?_
  refine x_leti hf (fun v8 hf => ?_)
  refine lv_istore (lv' := [(4, .int v8), (0, .ref (q 0)), (2, .int x2), (3, .int x3), (5, .int x5), (6, .int x6)]) hx hb dX7_feast_72 hl (by decide) rfl (fun ls hl => ?_)
  refine lv_iload hx hb dX7_feast_74 (lv_at hl 4 rfl) ?_
  refine lv_iload_n hx hb dX7_feast_76 rfl (lv_at hl 3 rfl) ?_
  refine lv_iload hx hb dX7_feast_77 (lv_at hl 5 rfl) ?_
  refine lv_ishr hx hb dX7_feast_79 ?_
  refine lv_iconst (v := 1) hx hb dX7_feast_80 (by decide) ?_
  refine lv_iand hx hb dX7_feast_81 ?_
  refine lv_iconst (v := 1) hx hb dX7_feast_82 (by decide) ?_
  refine lv_icmp_ne (tgt := 98) hx hb dX7_feast_83 (by decide) (fun hc => ?_) (fun hc => ?_)
  · have hf := x_neg hc hf
    refine lv_iconst (v := 0) hx hb dX7_feast_98 (by decide) ?_
    refine lv_ior hx hb dX7_feast_99 ?_
    refine x_leti hf (fun v9 hf => ?_)
    refine lv_istore (lv' := [(5, .int v9), (4, .int v8), (0, .ref (q 0)), (2, .int x2), (3, .int x3), (6, .int x6)]) hx hb dX7_feast_100 hl (by decide) rfl (fun ls hl => ?_)
    refine lv_iinc (v := x6 + 1) (lv' := [(6, .int (x6 + 1)), (5, .int v9), (4, .int v8), (0, .ref (q 0)), (2, .int x2), (3, .int x3)]) hx hb dX7_feast_102 hl (k := 5) rfl xi_1 (by decide) rfl (fun ls hl => ?_)
    refine lv_goto (tgt := 37) hx hb dX7_feast_105 (by decide) ?_
    exact hK37 x2 x3 v8 v9 (x6 + 1) S _ _ _ hf hw (lv_sub hl [3, 4, 5, 2, 1, 0] rfl)
  · have hf := x_pos hc hf
    refine lv_iconst (v := 1) hx hb dX7_feast_86 (by decide) ?_
    refine lv_aload_n hx hb dX7_feast_87 rfl (lv_at hl 1 rfl) ?_
    refine x_get B hw (Tb := TX7) inX7 0 (by decide) rfl rfl 8 (by decide) u698 (fun _ h => h) rfl dX7_feast_88 ?_
    refine lv_iload hx hb dX7_feast_91 (lv_at hl 5 rfl) ?_
    refine x_iald B hw 7 (by decide) rfl dX7_feast_93 hf (fun v10 hf => ?_)
    refine lv_ishl hx hb dX7_feast_94 ?_
    refine lv_goto (tgt := 99) hx hb dX7_feast_95 (by decide) ?_
    refine lv_ior hx hb dX7_feast_99 ?_
    refine x_leti hf (fun v11 hf => ?_)
    refine lv_istore (lv' := [(5, .int v11), (4, .int v8), (0, .ref (q 0)), (2, .int x2), (3, .int x3), (6, .int x6)]) hx hb dX7_feast_100 hl (by decide) rfl (fun ls hl => ?_)
    refine lv_iinc (v := x6 + 1) (lv' := [(6, .int (x6 + 1)), (5, .int v11), (4, .int v8), (0, .ref (q 0)), (2, .int x2), (3, .int x3)]) hx hb dX7_feast_102 hl (k := 5) rfl xi_1 (by decide) rfl (fun ls hl => ?_)
    refine lv_goto (tgt := 37) hx hb dX7_feast_105 (by decide) ?_
    exact hK37 x2 x3 v8 v11 (x6 + 1) S _ _ _ hf hw (lv_sub hl [3, 4, 5, 2, 1, 0] rfl)

set_option maxHeartbeats 4000000 in
theorem jMod_feast_b37_ok (B : XB p s m args meth c A cX7_feast 7 (some .int) RX7) {SF : St} {r : Int32} (K37 : Int32 → Int32 → Int32 → Int32 → Int32 → St → Option (Int32 × St)) (hK37 : ∀ (x2 : Int32) (x3 : Int32) (x4 : Int32) (x5 : Int32) (x6 : Int32) (S : St) (H : Heap) (locs : List Loc) (ls : Array Slot), K37 x2 x3 x4 x5 x6 S = some (r, SF) → Xw D 17 (cellM T q) q T ExM A s S H locs → lv_has ls 7 [(0, .ref (q 0)), (2, .int x2), (3, .int x3), (4, .int x4), (5, .int x5), (6, .int x6)] → XG p l e ({ frames := 1, cells := 0, slots := 0, locals := 22 }) s m args below meth c D 17 (cellM T q) q T A SF (some (.int r)) H locs 37 ls [])  (x2 : Int32) (x3 : Int32) (x4 : Int32) (x5 : Int32) (x6 : Int32) (S : St) {H : Heap} {locs : List Loc} {ls : Array Slot} (hf : jMod_feast_b37 K37 x2 x3 x4 x5 x6 S = some (r, SF)) (hw : Xw D 17 (cellM T q) q T ExM A s S H locs) (hl : lv_has ls 7 [(0, .ref (q 0)), (2, .int x2), (3, .int x3), (4, .int x4), (5, .int x5), (6, .int x6)]) : XG p l e ({ frames := 1, cells := 0, slots := 0, locals := 22 }) s m args below meth c D 17 (cellM T q) q T A SF (some (.int r)) H locs 37 ls [] := by
  unfold jMod_feast_b37 at hf
  obtain ⟨hx, hb, hr, hml, hown, hts, hlk, hA⟩ := id B
  refine lv_iload hx hb dX7_feast_37 (lv_at hl 5 rfl) ?_
  refine lv_aload_n hx hb dX7_feast_39 rfl (lv_at hl 0 rfl) ?_
  refine x_get B hw (Tb := TX7) inX7 0 (by decide) rfl rfl 5 (by decide) u695 (fun _ h => h) rfl dX7_feast_40 ?_
  refine lv_iconst (v := 0) hx hb dX7_feast_43 (by decide) ?_
  refine x_iald B hw 4 (by decide) rfl dX7_feast_44 hf (fun v5 hf => ?_)
  refine lv_icmp_ge (tgt := 108) hx hb dX7_feast_45 (by decide) (fun hc => ?_) (fun hc => ?_)
  · have hf := x_pos hc hf
    refine lv_aload_n hx hb dX7_feast_108 rfl (lv_at hl 0 rfl) ?_
    refine lv_iload hx hb dX7_feast_109 (lv_at hl 3 rfl) ?_
    obtain ⟨v7, S6, hc, hf⟩ := x_bd_some hf
    refine x_callV B ExM_ok hw 0 (by decide) rfl rfl (As := [.int x4]) (rest := []) (st1 := [.int v7]) (jMod_meant_ok hc) u900 u902 u32 u45 u903 hdX7_meant rfl ⟨Nat.le_of_ble_eq_true rfl, Nat.le_of_ble_eq_true rfl⟩ ⟨rfl, rfl⟩ hl.1 (Nat.le_of_ble_eq_true rfl) dX7_feast_111 (fun H locs hw => ?_) rfl rfl
    refine lv_istore (lv' := [(6, .int v7), (0, .ref (q 0)), (2, .int x2), (3, .int x3), (4, .int x4), (5, .int x5)]) hx hb dX7_feast_114 hl (by decide) rfl (fun ls hl => ?_)
    refine lv_iload_n hx hb dX7_feast_116 rfl (lv_at hl 2 rfl) ?_
    refine lv_if_ne (tgt := 125) hx hb dX7_feast_117 (by decide) (fun hc => ?_) (fun hc => ?_)
    · have hf := x_neg hc hf
      refine lv_iload_n hx hb dX7_feast_125 rfl (lv_at hl 2 rfl) ?_
      refine lv_iconst (v := 1) hx hb dX7_feast_126 (by decide) ?_
      refine lv_icmp_eq (tgt := 137) hx hb dX7_feast_127 (by decide) (fun hc => ?_) (fun hc => ?_)
      · have hf := x_pos hc hf
        refine lv_iload hx hb dX7_feast_137 (lv_at hl 0 rfl) ?_
        refine lv_goto (tgt := 151) hx hb dX7_feast_139 (by decide) ?_
        exact x_iret B hw hf dX7_feast_151
      · have hf := x_neg hc hf
        refine lv_iload hx hb dX7_feast_130 (lv_at hl 0 rfl) ?_
        refine lv_bipush (v := (-9)) hx hb dX7_feast_132 (by decide) ?_
        refine lv_icmp_ne (tgt := 142) hx hb dX7_feast_134 (by decide) (fun hc => ?_) (fun hc => ?_)
        · have hf := x_neg hc hf
          refine lv_iconst (v := 1) hx hb dX7_feast_142 (by decide) ?_
          refine lv_iload hx hb dX7_feast_143 (lv_at hl 5 rfl) ?_
          refine lv_iload hx hb dX7_feast_145 (lv_at hl 0 rfl) ?_
          refine lv_ishr hx hb dX7_feast_147 ?_
          refine lv_iconst (v := 1) hx hb dX7_feast_148 (by decide) ?_
          refine lv_iand hx hb dX7_feast_149 ?_
          refine lv_isub hx hb dX7_feast_150 ?_
          exact x_iret B hw hf dX7_feast_151
        · have hf := x_pos hc hf
          refine lv_iload hx hb dX7_feast_137 (lv_at hl 0 rfl) ?_
          refine lv_goto (tgt := 151) hx hb dX7_feast_139 (by decide) ?_
          exact x_iret B hw hf dX7_feast_151
    · have hf := x_pos hc hf
      refine lv_iload hx hb dX7_feast_120 (lv_at hl 4 rfl) ?_
      refine lv_goto (tgt := 151) hx hb dX7_feast_122 (by decide) ?_
      exact x_iret B hw hf dX7_feast_151
  · have hf := x_neg hc hf
    refine lv_iload hx hb dX7_feast_48 (lv_at hl 3 rfl) ?_
    refine lv_iload_n hx hb dX7_feast_50 rfl (lv_at hl 2 rfl) ?_
    refine lv_iload hx hb dX7_feast_51 (lv_at hl 5 rfl) ?_
    refine lv_ishr hx hb dX7_feast_53 ?_
    refine lv_iconst (v := 1) hx hb dX7_feast_54 (by decide) ?_
    refine lv_iand hx hb dX7_feast_55 ?_
    refine lv_iconst (v := 1) hx hb dX7_feast_56 (by decide) ?_
    refine lv_icmp_ne (tgt := 70) hx hb dX7_feast_57 (by decide) (fun hc => ?_) (fun hc => ?_)
    · have hf := x_neg hc hf
      refine lv_iconst (v := 0) hx hb dX7_feast_70 (by decide) ?_
      exact jMod_feast_b71_ok B K37 hK37 x2 x3 x5 x6 0 x4 S hf hw (lv_sub hl [0, 1, 2, 4, 5] rfl)
    · have hf := x_pos hc hf
      refine lv_aload_n hx hb dX7_feast_60 rfl (lv_at hl 0 rfl) ?_
      refine x_get B hw (Tb := TX7) inX7 0 (by decide) rfl rfl 7 (by decide) u697 (fun _ h => h) rfl dX7_feast_61 ?_
      refine lv_iload hx hb dX7_feast_64 (lv_at hl 5 rfl) ?_
      refine x_iald B hw 6 (by decide) rfl dX7_feast_66 hf (fun v12 hf => ?_)
      refine lv_goto (tgt := 71) hx hb dX7_feast_67 (by decide) ?_
      exact jMod_feast_b71_ok B K37 hK37 x2 x3 x5 x6 v12 x4 S hf hw (lv_sub hl [0, 1, 2, 4, 5] rfl)

theorem jMod_feast_h37_ok (B : XB p s m args meth c A cX7_feast 7 (some .int) RX7) {SF : St} {r : Int32} : ∀ (n : Nat) (x2 : Int32) (x3 : Int32) (x4 : Int32) (x5 : Int32) (x6 : Int32) (S : St) (H : Heap) (locs : List Loc) (ls : Array Slot), jMod_feast_h37 n x2 x3 x4 x5 x6 S = some (r, SF) → Xw D 17 (cellM T q) q T ExM A s S H locs → lv_has ls 7 [(0, .ref (q 0)), (2, .int x2), (3, .int x3), (4, .int x4), (5, .int x5), (6, .int x6)] → XG p l e ({ frames := 1, cells := 0, slots := 0, locals := 22 }) s m args below meth c D 17 (cellM T q) q T A SF (some (.int r)) H locs 37 ls [] := by
  intro n
  induction n with
  | zero =>
    intro x2 x3 x4 x5 x6 S H locs ls hf hw hl
    rw [jMod_feast_h37] at hf
    cases hf
  | succ n ih =>
    intro x2 x3 x4 x5 x6 S H locs ls hf hw hl
    rw [jMod_feast_h37] at hf
    exact jMod_feast_b37_ok B (jMod_feast_h37 n) ih x2 x3 x4 x5 x6 S hf hw hl

set_option maxHeartbeats 4000000 in
theorem jMod_feast_b0_ok (B : XB p s m args meth c A cX7_feast 7 (some .int) RX7) {SF : St} {r : Int32}  (x1 : Int32) (x2 : Int32) (S : St) {H : Heap} {locs : List Loc} {ls : Array Slot} (hf : jMod_feast x1 x2 S = some (r, SF)) (hw : Xw D 17 (cellM T q) q T ExM A s S H locs) (hl : lv_has ls 7 [(0, .ref (q 0)), (1, .int x1), (2, .int x2)]) : XG p l e ({ frames := 1, cells := 0, slots := 0, locals := 22 }) s m args below meth c D 17 (cellM T q) q T A SF (some (.int r)) H locs 0 ls [] := by
  unfold jMod_feast at hf
  obtain ⟨hx, hb, hr, hml, hown, hts, hlk, hA⟩ := id B
  refine lv_iload_n hx hb dX7_feast_0 rfl (lv_at hl 1 rfl) ?_
  refine lv_iconst (v := 1) hx hb dX7_feast_1 (by decide) ?_
  refine lv_aload_n hx hb dX7_feast_2 rfl (lv_at hl 0 rfl) ?_
  refine x_get B hw (Tb := TX7) inX7 0 (by decide) rfl rfl 5 (by decide) u695 (fun _ h => h) rfl dX7_feast_3 ?_
  refine lv_iconst (v := 0) hx hb dX7_feast_6 (by decide) ?_
  refine x_iald B hw 4 (by decide) rfl dX7_feast_7 hf (fun v1 hf => ?_)
  refine lv_ishl hx hb dX7_feast_8 ?_
  refine lv_iconst (v := 1) hx hb dX7_feast_9 (by decide) ?_
  refine lv_isub hx hb dX7_feast_10 ?_
  refine lv_iand hx hb dX7_feast_11 ?_
  refine x_leti hf (fun v2 hf => ?_)
  refine lv_istore_n (lv' := [(3, .int v2), (0, .ref (q 0)), (1, .int x1), (2, .int x2)]) hx hb dX7_feast_12 rfl hl (by decide) rfl (fun ls hl => ?_)
  refine lv_iload_n hx hb dX7_feast_13 rfl (lv_at hl 0 rfl) ?_
  refine lv_if_eq (tgt := 26) hx hb dX7_feast_14 (by decide) (fun hc => ?_) (fun hc => ?_)
  · have hf := x_pos hc hf
    refine lv_iconst (v := (-1)) hx hb dX7_feast_26 (by decide) ?_
    exact x_iret B hw hf dX7_feast_27
  · have hf := x_neg hc hf
    refine lv_iload_n hx hb dX7_feast_17 rfl (lv_at hl 3 rfl) ?_
    refine lv_iconst (v := 0) hx hb dX7_feast_18 (by decide) ?_
    refine lv_iconst (v := 2) hx hb dX7_feast_19 (by decide) ?_
    obtain ⟨v4, S3, hc, hf⟩ := x_bd_some hf
    refine x_callS B ExM_ok hw (As := [.int x2, .int 0, .int 2]) (rest := []) (st1 := [.int v4]) (jMod_in_ok hc) u768 u769 u45 u770 hdX7_in rfl ⟨Nat.le_of_ble_eq_true rfl, Nat.le_of_ble_eq_true rfl⟩ ⟨rfl, rfl⟩ hl.1 (Nat.le_of_ble_eq_true rfl) dX7_feast_20 (fun H locs hw => ?_) rfl rfl
    refine lv_if_ne (tgt := 28) hx hb dX7_feast_23 (by decide) (fun hc => ?_) (fun hc => ?_)
    · have hf := x_neg hc hf
      refine lv_iconst (v := 0) hx hb dX7_feast_28 (by decide) ?_
      refine lv_istore (lv' := [(4, .int 0), (3, .int v2), (0, .ref (q 0)), (1, .int x1), (2, .int x2)]) hx hb dX7_feast_29 hl (by decide) rfl (fun ls hl => ?_)
      refine lv_iconst (v := 0) hx hb dX7_feast_31 (by decide) ?_
      refine lv_istore (lv' := [(5, .int 0), (4, .int 0), (3, .int v2), (0, .ref (q 0)), (1, .int x1), (2, .int x2)]) hx hb dX7_feast_32 hl (by decide) rfl (fun ls hl => ?_)
      refine lv_iconst (v := 0) hx hb dX7_feast_34 (by decide) ?_
      refine lv_istore (lv' := [(6, .int 0), (5, .int 0), (4, .int 0), (3, .int v2), (0, .ref (q 0)), (1, .int x1), (2, .int x2)]) hx hb dX7_feast_35 hl (by decide) rfl (fun ls hl => ?_)
      exact jMod_feast_h37_ok B FU x2 v2 0 0 0 S3 _ _ _ hf hw (lv_sub hl [4, 6, 3, 2, 1, 0] rfl)
    · have hf := x_pos hc hf
      refine lv_iconst (v := (-1)) hx hb dX7_feast_26 (by decide) ?_
      exact x_iret B hw hf dX7_feast_27

set_option maxHeartbeats 4000000 in
theorem jMod_feast_ok {x1 : Int32} {x2 : Int32} {S SF : St} {r : Int32} (hf : jMod_feast x1 x2 S = some (r, SF)) : XMet l D 17 (cellM T q) q T ExM yX7_feast cX7_feast 7 (some .int) ({ frames := 1, cells := 0, slots := 0, locals := 22 }) [.ref (q 0), .int x1, .int x2] S (some (.int r)) SF := by
  refine x_enter (own := RX7) (by decide +kernel) rfl (Nat.le_of_ble_eq_true rfl) (fun p e s m below meth c A B ls hw hl0 => ?_)
  have hl : lv_has ls 7 [(0, .ref (q 0)), (1, .int x1), (2, .int x2)] := hl0
  exact jMod_feast_b0_ok B x1 x2 S hf hw hl

set_option maxHeartbeats 4000000 in
theorem jMod_silent_b25_ok (B : XB p s m args meth c A cX7_silent 4 (some .int) RX7) {SF : St} {r : Int32} (K25 : Int32 → Int32 → Int32 → St → Option (Int32 × St)) (hK25 : ∀ (x1 : Int32) (x2 : Int32) (x3 : Int32) (S : St) (H : Heap) (locs : List Loc) (ls : Array Slot), K25 x1 x2 x3 S = some (r, SF) → Xw D 17 (cellM T q) q T ExM A s S H locs → lv_has ls 4 [(0, .ref (q 0)), (1, .int x1), (2, .int x2), (3, .int x3)] → XG p l e ({ frames := 1, cells := 0, slots := 0, locals := 22 }) s m args below meth c D 17 (cellM T q) q T A SF (some (.int r)) H locs 25 ls [])  (x1 : Int32) (x2 : Int32) (x3 : Int32) (S : St) {H : Heap} {locs : List Loc} {ls : Array Slot} (hf : jMod_silent_b25 K25 x1 x2 x3 S = some (r, SF)) (hw : Xw D 17 (cellM T q) q T ExM A s S H locs) (hl : lv_has ls 4 [(0, .ref (q 0)), (1, .int x1), (2, .int x2), (3, .int x3)]) : XG p l e ({ frames := 1, cells := 0, slots := 0, locals := 22 }) s m args below meth c D 17 (cellM T q) q T A SF (some (.int r)) H locs 25 ls [] := by
  unfold jMod_silent_b25 at hf
  obtain ⟨hx, hb, hr, hml, hown, hts, hlk, hA⟩ := id B
  refine lv_iload_n hx hb dX7_silent_25 rfl (lv_at hl 3 rfl) ?_
  refine lv_aload_n hx hb dX7_silent_26 rfl (lv_at hl 0 rfl) ?_
  refine x_get B hw (Tb := TX7) inX7 0 (by decide) rfl rfl 16 (by decide) u706 (fun _ h => h) rfl dX7_silent_27 ?_
  refine lv_bipush (v := 32) hx hb dX7_silent_30 (by decide) ?_
  refine x_iald B hw 9 (by decide) rfl dX7_silent_32 hf (fun v5 hf => ?_)
  refine lv_icmp_ge (tgt := 77) hx hb dX7_silent_33 (by decide) (fun hc => ?_) (fun hc => ?_)
  · have hf := x_pos hc hf
    refine lv_iload_n hx hb dX7_silent_77 rfl (lv_at hl 2 rfl) ?_
    exact x_iret B hw hf dX7_silent_78
  · have hf := x_neg hc hf
    refine lv_iload_n hx hb dX7_silent_36 rfl (lv_at hl 2 rfl) ?_
    refine lv_iload_n hx hb dX7_silent_37 rfl (lv_at hl 3 rfl) ?_
    refine lv_aload_n hx hb dX7_silent_38 rfl (lv_at hl 0 rfl) ?_
    refine x_get B hw (Tb := TX7) inX7 0 (by decide) rfl rfl 16 (by decide) u706 (fun _ h => h) rfl dX7_silent_39 ?_
    refine lv_bipush (v := 32) hx hb dX7_silent_42 (by decide) ?_
    refine x_iald B hw 9 (by decide) rfl dX7_silent_44 hf (fun v6 hf => ?_)
    refine lv_iload_n hx hb dX7_silent_45 rfl (lv_at hl 1 rfl) ?_
    refine lv_isub hx hb dX7_silent_46 ?_
    refine lv_icmp_lt (tgt := 68) hx hb dX7_silent_47 (by decide) (fun hc => ?_) (fun hc => ?_)
    · have hf := x_pos hc hf
      refine lv_iconst (v := (-1)) hx hb dX7_silent_68 (by decide) ?_
      refine lv_iand hx hb dX7_silent_69 ?_
      refine x_leti hf (fun v7 hf => ?_)
      refine lv_istore_n (lv' := [(2, .int v7), (0, .ref (q 0)), (1, .int x1), (3, .int x3)]) hx hb dX7_silent_70 rfl hl (by decide) rfl (fun ls hl => ?_)
      refine lv_iinc (v := x3 + 1) (lv' := [(3, .int (x3 + 1)), (2, .int v7), (0, .ref (q 0)), (1, .int x1)]) hx hb dX7_silent_71 hl (k := 3) rfl xi_1 (by decide) rfl (fun ls hl => ?_)
      refine lv_goto (tgt := 25) hx hb dX7_silent_74 (by decide) ?_
      exact hK25 x1 v7 (x3 + 1) S _ _ _ hf hw (lv_sub hl [2, 3, 1, 0] rfl)
    · have hf := x_neg hc hf
      refine lv_iconst (v := 1) hx hb dX7_silent_50 (by decide) ?_
      refine lv_aload_n hx hb dX7_silent_51 rfl (lv_at hl 0 rfl) ?_
      refine x_get B hw (Tb := TX7) inX7 0 (by decide) rfl rfl 16 (by decide) u706 (fun _ h => h) rfl dX7_silent_52 ?_
      refine lv_bipush (v := 33) hx hb dX7_silent_55 (by decide) ?_
      refine lv_iconst (v := 2) hx hb dX7_silent_57 (by decide) ?_
      refine lv_iload_n hx hb dX7_silent_58 rfl (lv_at hl 3 rfl) ?_
      refine lv_imul hx hb dX7_silent_59 ?_
      refine lv_iadd hx hb dX7_silent_60 ?_
      refine x_iald B hw 9 (by decide) rfl dX7_silent_61 hf (fun v8 hf => ?_)
      refine lv_ishl hx hb dX7_silent_62 ?_
      refine lv_iconst (v := (-1)) hx hb dX7_silent_63 (by decide) ?_
      refine lv_ixor hx hb dX7_silent_64 ?_
      refine lv_goto (tgt := 69) hx hb dX7_silent_65 (by decide) ?_
      refine lv_iand hx hb dX7_silent_69 ?_
      refine x_leti hf (fun v9 hf => ?_)
      refine lv_istore_n (lv' := [(2, .int v9), (0, .ref (q 0)), (1, .int x1), (3, .int x3)]) hx hb dX7_silent_70 rfl hl (by decide) rfl (fun ls hl => ?_)
      refine lv_iinc (v := x3 + 1) (lv' := [(3, .int (x3 + 1)), (2, .int v9), (0, .ref (q 0)), (1, .int x1)]) hx hb dX7_silent_71 hl (k := 3) rfl xi_1 (by decide) rfl (fun ls hl => ?_)
      refine lv_goto (tgt := 25) hx hb dX7_silent_74 (by decide) ?_
      exact hK25 x1 v9 (x3 + 1) S _ _ _ hf hw (lv_sub hl [2, 3, 1, 0] rfl)

theorem jMod_silent_h25_ok (B : XB p s m args meth c A cX7_silent 4 (some .int) RX7) {SF : St} {r : Int32} : ∀ (n : Nat) (x1 : Int32) (x2 : Int32) (x3 : Int32) (S : St) (H : Heap) (locs : List Loc) (ls : Array Slot), jMod_silent_h25 n x1 x2 x3 S = some (r, SF) → Xw D 17 (cellM T q) q T ExM A s S H locs → lv_has ls 4 [(0, .ref (q 0)), (1, .int x1), (2, .int x2), (3, .int x3)] → XG p l e ({ frames := 1, cells := 0, slots := 0, locals := 22 }) s m args below meth c D 17 (cellM T q) q T A SF (some (.int r)) H locs 25 ls [] := by
  intro n
  induction n with
  | zero =>
    intro x1 x2 x3 S H locs ls hf hw hl
    rw [jMod_silent_h25] at hf
    cases hf
  | succ n ih =>
    intro x1 x2 x3 S H locs ls hf hw hl
    rw [jMod_silent_h25] at hf
    exact jMod_silent_b25_ok B (jMod_silent_h25 n) ih x1 x2 x3 S hf hw hl

set_option maxHeartbeats 4000000 in
theorem jMod_silent_b0_ok (B : XB p s m args meth c A cX7_silent 4 (some .int) RX7) {SF : St} {r : Int32}  (x1 : Int32) (S : St) {H : Heap} {locs : List Loc} {ls : Array Slot} (hf : jMod_silent x1 S = some (r, SF)) (hw : Xw D 17 (cellM T q) q T ExM A s S H locs) (hl : lv_has ls 4 [(0, .ref (q 0)), (1, .int x1)]) : XG p l e ({ frames := 1, cells := 0, slots := 0, locals := 22 }) s m args below meth c D 17 (cellM T q) q T A SF (some (.int r)) H locs 0 ls [] := by
  unfold jMod_silent at hf
  obtain ⟨hx, hb, hr, hml, hown, hts, hlk, hA⟩ := id B
  refine lv_iload_n hx hb dX7_silent_0 rfl (lv_at hl 1 rfl) ?_
  refine lv_iconst (v := 1) hx hb dX7_silent_1 (by decide) ?_
  refine lv_bipush (v := 20) hx hb dX7_silent_2 (by decide) ?_
  obtain ⟨v2, S1, hc, hf⟩ := x_bd_some hf
  refine x_callS B ExM_ok hw (As := [.int x1, .int 1, .int 20]) (rest := []) (st1 := [.int v2]) (jMod_in_ok hc) u768 u769 u45 u770 hdX7_in rfl ⟨Nat.le_of_ble_eq_true rfl, Nat.le_of_ble_eq_true rfl⟩ ⟨rfl, rfl⟩ hl.1 (Nat.le_of_ble_eq_true rfl) dX7_silent_4 (fun H locs hw => ?_) rfl rfl
  refine lv_if_ne (tgt := 12) hx hb dX7_silent_7 (by decide) (fun hc => ?_) (fun hc => ?_)
  · have hf := x_neg hc hf
    refine lv_iconst (v := 1) hx hb dX7_silent_12 (by decide) ?_
    refine lv_aload_n hx hb dX7_silent_13 rfl (lv_at hl 0 rfl) ?_
    refine x_get B hw (Tb := TX7) inX7 0 (by decide) rfl rfl 3 (by decide) u693 (fun _ h => h) rfl dX7_silent_14 ?_
    refine lv_iconst (v := 0) hx hb dX7_silent_17 (by decide) ?_
    refine x_iald B hw 2 (by decide) rfl dX7_silent_18 hf (fun v3 hf => ?_)
    refine lv_ishl hx hb dX7_silent_19 ?_
    refine lv_iconst (v := 1) hx hb dX7_silent_20 (by decide) ?_
    refine lv_isub hx hb dX7_silent_21 ?_
    refine x_leti hf (fun v4 hf => ?_)
    refine lv_istore_n (lv' := [(2, .int v4), (0, .ref (q 0)), (1, .int x1)]) hx hb dX7_silent_22 rfl hl (by decide) rfl (fun ls hl => ?_)
    refine lv_iconst (v := 0) hx hb dX7_silent_23 (by decide) ?_
    refine lv_istore_n (lv' := [(3, .int 0), (2, .int v4), (0, .ref (q 0)), (1, .int x1)]) hx hb dX7_silent_24 rfl hl (by decide) rfl (fun ls hl => ?_)
    exact jMod_silent_h25_ok B FU x1 v4 0 S1 _ _ _ hf hw (lv_sub hl [2, 3, 1, 0] rfl)
  · have hf := x_pos hc hf
    refine lv_iconst (v := (-1)) hx hb dX7_silent_10 (by decide) ?_
    exact x_iret B hw hf dX7_silent_11

set_option maxHeartbeats 4000000 in
theorem jMod_silent_ok {x1 : Int32} {S SF : St} {r : Int32} (hf : jMod_silent x1 S = some (r, SF)) : XMet l D 17 (cellM T q) q T ExM yX7_silent cX7_silent 4 (some .int) ({ frames := 1, cells := 0, slots := 0, locals := 22 }) [.ref (q 0), .int x1] S (some (.int r)) SF := by
  refine x_enter (own := RX7) (by decide +kernel) rfl (Nat.le_of_ble_eq_true rfl) (fun p e s m below meth c A B ls hw hl0 => ?_)
  have hl : lv_has ls 4 [(0, .ref (q 0)), (1, .int x1)] := hl0
  exact jMod_silent_b0_ok B x1 S hf hw hl

set_option maxHeartbeats 4000000 in
theorem jMod_drawn_b13_ok (B : XB p s m args meth c A cX7_drawn 4 (some .int) RX7) {SF : St} {r : Int32} (K13 : Int32 → Int32 → St → Option (Int32 × St)) (hK13 : ∀ (x2 : Int32) (x3 : Int32) (S : St) (H : Heap) (locs : List Loc) (ls : Array Slot), K13 x2 x3 S = some (r, SF) → Xw D 17 (cellM T q) q T ExM A s S H locs → lv_has ls 4 [(0, .ref (q 0)), (2, .int x2), (3, .int x3)] → XG p l e ({ frames := 2, cells := 0, slots := 0, locals := 42 }) s m args below meth c D 17 (cellM T q) q T A SF (some (.int r)) H locs 13 ls [])  (x2 : Int32) (x3 : Int32) (S : St) {H : Heap} {locs : List Loc} {ls : Array Slot} (hf : jMod_drawn_b13 K13 x2 x3 S = some (r, SF)) (hw : Xw D 17 (cellM T q) q T ExM A s S H locs) (hl : lv_has ls 4 [(0, .ref (q 0)), (2, .int x2), (3, .int x3)]) : XG p l e ({ frames := 2, cells := 0, slots := 0, locals := 42 }) s m args below meth c D 17 (cellM T q) q T A SF (some (.int r)) H locs 13 ls [] := by
  unfold jMod_drawn_b13 at hf
  obtain ⟨hx, hb, hr, hml, hown, hts, hlk, hA⟩ := id B
  refine lv_iload_n hx hb dX7_drawn_13 rfl (lv_at hl 2 rfl) ?_
  refine lv_iconst (v := 3) hx hb dX7_drawn_14 (by decide) ?_
  refine lv_icmp_ge (tgt := 78) hx hb dX7_drawn_15 (by decide) (fun hc => ?_) (fun hc => ?_)
  · have hf := x_pos hc hf
    refine lv_iload_n hx hb dX7_drawn_78 rfl (lv_at hl 1 rfl) ?_
    exact x_iret B hw hf dX7_drawn_79
  · have hf := x_neg hc hf
    refine lv_aload_n hx hb dX7_drawn_18 rfl (lv_at hl 0 rfl) ?_
    refine x_get B hw (Tb := TX7) inX7 0 (by decide) rfl rfl 16 (by decide) u706 (fun _ h => h) rfl dX7_drawn_19 ?_
    refine lv_bipush (v := 31) hx hb dX7_drawn_22 (by decide) ?_
    refine lv_aload_n hx hb dX7_drawn_24 rfl (lv_at hl 0 rfl) ?_
    refine x_get B hw (Tb := TX7) inX7 0 (by decide) rfl rfl 16 (by decide) u706 (fun _ h => h) rfl dX7_drawn_25 ?_
    refine lv_bipush (v := 31) hx hb dX7_drawn_28 (by decide) ?_
    refine x_iald B hw 9 (by decide) rfl dX7_drawn_30 hf (fun v3 hf => ?_)
    refine lv_ldc (v := 1103515245) hx hb hown (hts _ u949) dX7_drawn_31 ?_
    refine lv_imul hx hb dX7_drawn_33 ?_
    refine lv_sipush (v := 12345) hx hb dX7_drawn_34 (by decide) ?_
    refine lv_iadd hx hb dX7_drawn_37 ?_
    refine x_iast B hw 9 (by decide) (fun _ _ => rfl) dX7_drawn_38 hf (fun S4 H locs hw hf => ?_)
    refine lv_iload_n hx hb dX7_drawn_39 rfl (lv_at hl 1 rfl) ?_
    refine lv_aload_n hx hb dX7_drawn_40 rfl (lv_at hl 0 rfl) ?_
    refine x_get B hw (Tb := TX7) inX7 0 (by decide) rfl rfl 16 (by decide) u706 (fun _ h => h) rfl dX7_drawn_41 ?_
    refine lv_bipush (v := 31) hx hb dX7_drawn_44 (by decide) ?_
    refine x_iald B hw 9 (by decide) rfl dX7_drawn_46 hf (fun v5 hf => ?_)
    refine lv_bipush (v := 16) hx hb dX7_drawn_47 (by decide) ?_
    refine lv_iushr (v := x_ush v5 16) hx hb dX7_drawn_49 rfl ?_
    refine lv_bipush (v := 10) hx hb dX7_drawn_50 (by decide) ?_
    obtain ⟨hne, hf⟩ := x_ng hf
    refine lv_irem hx hb dX7_drawn_52 hne ?_
    refine lv_aload_n hx hb dX7_drawn_53 rfl (lv_at hl 0 rfl) ?_
    refine x_get B hw (Tb := TX7) inX7 0 (by decide) rfl rfl 16 (by decide) u706 (fun _ h => h) rfl dX7_drawn_54 ?_
    refine lv_bipush (v := 30) hx hb dX7_drawn_57 (by decide) ?_
    refine x_iald B hw 9 (by decide) rfl dX7_drawn_59 hf (fun v6 hf => ?_)
    refine lv_icmp_ge (tgt := 69) hx hb dX7_drawn_60 (by decide) (fun hc => ?_) (fun hc => ?_)
    · have hf := x_pos hc hf
      refine lv_iconst (v := 0) hx hb dX7_drawn_69 (by decide) ?_
      refine lv_ixor hx hb dX7_drawn_70 ?_
      refine x_leti hf (fun v7 hf => ?_)
      refine lv_istore_n (lv' := [(2, .int v7), (0, .ref (q 0)), (3, .int x3)]) hx hb dX7_drawn_71 rfl hl (by decide) rfl (fun ls hl => ?_)
      refine lv_iinc (v := x3 + 1) (lv' := [(3, .int (x3 + 1)), (2, .int v7), (0, .ref (q 0))]) hx hb dX7_drawn_72 hl (k := 2) rfl xi_1 (by decide) rfl (fun ls hl => ?_)
      refine lv_goto (tgt := 13) hx hb dX7_drawn_75 (by decide) ?_
      exact hK13 v7 (x3 + 1) S4 _ _ _ hf hw (lv_sub hl [2, 1, 0] rfl)
    · have hf := x_neg hc hf
      refine lv_iconst (v := 1) hx hb dX7_drawn_63 (by decide) ?_
      refine lv_iload_n hx hb dX7_drawn_64 rfl (lv_at hl 2 rfl) ?_
      refine lv_ishl hx hb dX7_drawn_65 ?_
      refine lv_goto (tgt := 70) hx hb dX7_drawn_66 (by decide) ?_
      refine lv_ixor hx hb dX7_drawn_70 ?_
      refine x_leti hf (fun v8 hf => ?_)
      refine lv_istore_n (lv' := [(2, .int v8), (0, .ref (q 0)), (3, .int x3)]) hx hb dX7_drawn_71 rfl hl (by decide) rfl (fun ls hl => ?_)
      refine lv_iinc (v := x3 + 1) (lv' := [(3, .int (x3 + 1)), (2, .int v8), (0, .ref (q 0))]) hx hb dX7_drawn_72 hl (k := 2) rfl xi_1 (by decide) rfl (fun ls hl => ?_)
      refine lv_goto (tgt := 13) hx hb dX7_drawn_75 (by decide) ?_
      exact hK13 v8 (x3 + 1) S4 _ _ _ hf hw (lv_sub hl [2, 1, 0] rfl)

theorem jMod_drawn_h13_ok (B : XB p s m args meth c A cX7_drawn 4 (some .int) RX7) {SF : St} {r : Int32} : ∀ (n : Nat) (x2 : Int32) (x3 : Int32) (S : St) (H : Heap) (locs : List Loc) (ls : Array Slot), jMod_drawn_h13 n x2 x3 S = some (r, SF) → Xw D 17 (cellM T q) q T ExM A s S H locs → lv_has ls 4 [(0, .ref (q 0)), (2, .int x2), (3, .int x3)] → XG p l e ({ frames := 2, cells := 0, slots := 0, locals := 42 }) s m args below meth c D 17 (cellM T q) q T A SF (some (.int r)) H locs 13 ls [] := by
  intro n
  induction n with
  | zero =>
    intro x2 x3 S H locs ls hf hw hl
    rw [jMod_drawn_h13] at hf
    cases hf
  | succ n ih =>
    intro x2 x3 S H locs ls hf hw hl
    rw [jMod_drawn_h13] at hf
    exact jMod_drawn_b13_ok B (jMod_drawn_h13 n) ih x2 x3 S hf hw hl

set_option maxHeartbeats 4000000 in
theorem jMod_drawn_b0_ok (B : XB p s m args meth c A cX7_drawn 4 (some .int) RX7) {SF : St} {r : Int32}  (x1 : Int32) (S : St) {H : Heap} {locs : List Loc} {ls : Array Slot} (hf : jMod_drawn x1 S = some (r, SF)) (hw : Xw D 17 (cellM T q) q T ExM A s S H locs) (hl : lv_has ls 4 [(0, .ref (q 0)), (1, .int x1)]) : XG p l e ({ frames := 2, cells := 0, slots := 0, locals := 42 }) s m args below meth c D 17 (cellM T q) q T A SF (some (.int r)) H locs 0 ls [] := by
  unfold jMod_drawn at hf
  obtain ⟨hx, hb, hr, hml, hown, hts, hlk, hA⟩ := id B
  refine lv_iload_n hx hb dX7_drawn_0 rfl (lv_at hl 1 rfl) ?_
  obtain ⟨v2, S1, hc, hf⟩ := x_bd_some hf
  refine x_callS B ExM_ok hw (As := [.int x1]) (rest := []) (st1 := [.int v2]) (jMod_isSmoke_ok hc) u889 u890 u45 u891 hdX7_isSmoke rfl ⟨Nat.le_of_ble_eq_true rfl, Nat.le_of_ble_eq_true rfl⟩ ⟨rfl, rfl⟩ hl.1 (Nat.le_of_ble_eq_true rfl) dX7_drawn_1 (fun H locs hw => ?_) rfl rfl
  refine lv_if_ne (tgt := 9) hx hb dX7_drawn_4 (by decide) (fun hc => ?_) (fun hc => ?_)
  · have hf := x_neg hc hf
    refine lv_iload_n hx hb dX7_drawn_9 rfl (lv_at hl 1 rfl) ?_
    refine lv_istore_n (lv' := [(2, .int x1), (0, .ref (q 0)), (1, .int x1)]) hx hb dX7_drawn_10 rfl hl (by decide) rfl (fun ls hl => ?_)
    refine lv_iconst (v := 0) hx hb dX7_drawn_11 (by decide) ?_
    refine lv_istore_n (lv' := [(3, .int 0), (2, .int x1), (0, .ref (q 0)), (1, .int x1)]) hx hb dX7_drawn_12 rfl hl (by decide) rfl (fun ls hl => ?_)
    exact jMod_drawn_h13_ok B FU x1 0 S1 _ _ _ hf hw (lv_sub hl [2, 1, 0] rfl)
  · have hf := x_pos hc hf
    refine lv_iconst (v := (-1)) hx hb dX7_drawn_7 (by decide) ?_
    exact x_iret B hw hf dX7_drawn_8

set_option maxHeartbeats 4000000 in
theorem jMod_drawn_ok {x1 : Int32} {S SF : St} {r : Int32} (hf : jMod_drawn x1 S = some (r, SF)) : XMet l D 17 (cellM T q) q T ExM yX7_drawn cX7_drawn 4 (some .int) ({ frames := 2, cells := 0, slots := 0, locals := 42 }) [.ref (q 0), .int x1] S (some (.int r)) SF := by
  refine x_enter (own := RX7) (by decide +kernel) rfl (Nat.le_of_ble_eq_true rfl) (fun p e s m below meth c A B ls hw hl0 => ?_)
  have hl : lv_has ls 4 [(0, .ref (q 0)), (1, .int x1)] := hl0
  exact jMod_drawn_b0_ok B x1 S hf hw hl

set_option maxHeartbeats 4000000 in
theorem jMod_lot_b0_ok (B : XB p s m args meth c A cX7_lot 3 (some .int) RX7) {SF : St} {r : Int32}  (x1 : Int32) (S : St) {H : Heap} {locs : List Loc} {ls : Array Slot} (hf : jMod_lot x1 S = some (r, SF)) (hw : Xw D 17 (cellM T q) q T ExM A s S H locs) (hl : lv_has ls 3 [(0, .ref (q 0)), (1, .int x1)]) : XG p l e ({ frames := 0, cells := 0, slots := 0, locals := 0 }) s m args below meth c D 17 (cellM T q) q T A SF (some (.int r)) H locs 0 ls [] := by
  unfold jMod_lot at hf
  obtain ⟨hx, hb, hr, hml, hown, hts, hlk, hA⟩ := id B
  refine lv_aload_n hx hb dX7_lot_0 rfl (lv_at hl 0 rfl) ?_
  refine x_get B hw (Tb := TX7) inX7 0 (by decide) rfl rfl 16 (by decide) u706 (fun _ h => h) rfl dX7_lot_1 ?_
  refine lv_bipush (v := 31) hx hb dX7_lot_4 (by decide) ?_
  refine x_iald B hw 9 (by decide) rfl dX7_lot_6 hf (fun v1 hf => ?_)
  refine lv_istore_n (lv' := [(2, .int v1), (0, .ref (q 0)), (1, .int x1)]) hx hb dX7_lot_7 rfl hl (by decide) rfl (fun ls hl => ?_)
  refine lv_aload_n hx hb dX7_lot_8 rfl (lv_at hl 1 rfl) ?_
  refine x_get B hw (Tb := TX7) inX7 0 (by decide) rfl rfl 16 (by decide) u706 (fun _ h => h) rfl dX7_lot_9 ?_
  refine lv_bipush (v := 31) hx hb dX7_lot_12 (by decide) ?_
  refine lv_iload_n hx hb dX7_lot_14 rfl (lv_at hl 2 rfl) ?_
  refine x_iast B hw 9 (by decide) (fun _ _ => rfl) dX7_lot_15 hf (fun S2 H locs hw hf => ?_)
  refine lv_iload_n hx hb dX7_lot_16 rfl (lv_at hl 0 rfl) ?_
  exact x_iret B hw hf dX7_lot_17

set_option maxHeartbeats 4000000 in
theorem jMod_lot_ok {x1 : Int32} {S SF : St} {r : Int32} (hf : jMod_lot x1 S = some (r, SF)) : XMet l D 17 (cellM T q) q T ExM yX7_lot cX7_lot 3 (some .int) ({ frames := 0, cells := 0, slots := 0, locals := 0 }) [.ref (q 0), .int x1] S (some (.int r)) SF := by
  refine x_enter (own := RX7) (by decide +kernel) rfl (Nat.le_of_ble_eq_true rfl) (fun p e s m below meth c A B ls hw hl0 => ?_)
  have hl : lv_has ls 3 [(0, .ref (q 0)), (1, .int x1)] := hl0
  exact jMod_lot_b0_ok B x1 S hf hw hl

set_option maxHeartbeats 4000000 in
theorem jMod_mark_b0_ok (B : XB p s m args meth c A cX7_mark 4 (some .int) RX7) {SF : St} {r : Int32}  (x1 : Int32) (x2 : Int32) (S : St) {H : Heap} {locs : List Loc} {ls : Array Slot} (hf : jMod_mark x1 x2 S = some (r, SF)) (hw : Xw D 17 (cellM T q) q T ExM A s S H locs) (hl : lv_has ls 4 [(0, .ref (q 0)), (1, .int x1), (2, .int x2)]) : XG p l e ({ frames := 2, cells := 0, slots := 0, locals := 43 }) s m args below meth c D 17 (cellM T q) q T A SF (some (.int r)) H locs 0 ls [] := by
  unfold jMod_mark at hf
  obtain ⟨hx, hb, hr, hml, hown, hts, hlk, hA⟩ := id B
  refine lv_iload_n hx hb dX7_mark_0 rfl (lv_at hl 1 rfl) ?_
  refine lv_iconst (v := 0) hx hb dX7_mark_1 (by decide) ?_
  refine lv_iconst (v := 5) hx hb dX7_mark_2 (by decide) ?_
  obtain ⟨v2, S1, hc, hf⟩ := x_bd_some hf
  refine x_callS B ExM_ok hw (As := [.int x1, .int 0, .int 5]) (rest := []) (st1 := [.int v2]) (jMod_in_ok hc) u768 u769 u45 u770 hdX7_in rfl ⟨Nat.le_of_ble_eq_true rfl, Nat.le_of_ble_eq_true rfl⟩ ⟨rfl, rfl⟩ hl.1 (Nat.le_of_ble_eq_true rfl) dX7_mark_3 (fun H locs hw => ?_) rfl rfl
  refine lv_if_eq (tgt := 17) hx hb dX7_mark_6 (by decide) (fun hc => ?_) (fun hc => ?_)
  · have hf := x_pos hc hf
    refine lv_ldc (v := (-1000000)) hx hb hown (hts _ u958) dX7_mark_17 ?_
    exact x_iret B hw hf dX7_mark_19
  · have hf := x_neg hc hf
    refine lv_aload_n hx hb dX7_mark_9 rfl (lv_at hl 0 rfl) ?_
    refine lv_iload_n hx hb dX7_mark_10 rfl (lv_at hl 2 rfl) ?_
    obtain ⟨v4, S3, hc, hf⟩ := x_bd_some hf
    refine x_callV B ExM_ok hw 0 (by decide) rfl rfl (As := [.int x2]) (rest := []) (st1 := [.int v4]) (jMod_isDish_ok hc) u819 u821 u24 u45 u822 hdX7_isDish rfl ⟨Nat.le_of_ble_eq_true rfl, Nat.le_of_ble_eq_true rfl⟩ ⟨rfl, rfl⟩ hl.1 (Nat.le_of_ble_eq_true rfl) dX7_mark_11 (fun H locs hw => ?_) rfl rfl
    refine lv_if_ne (tgt := 20) hx hb dX7_mark_14 (by decide) (fun hc => ?_) (fun hc => ?_)
    · have hf := x_neg hc hf
      refine lv_aload_n hx hb dX7_mark_20 rfl (lv_at hl 0 rfl) ?_
      refine lv_iload_n hx hb dX7_mark_21 rfl (lv_at hl 2 rfl) ?_
      obtain ⟨v6, S5, hc, hf⟩ := x_bd_some hf
      refine x_callV B ExM_ok hw 0 (by decide) rfl rfl (As := [.int x2]) (rest := []) (st1 := [.int v6]) (jMod_unitsOf_ok hc) u823 u825 u25 u45 u826 hdX7_unitsOf rfl ⟨Nat.le_of_ble_eq_true rfl, Nat.le_of_ble_eq_true rfl⟩ ⟨rfl, rfl⟩ hl.1 (Nat.le_of_ble_eq_true rfl) dX7_mark_22 (fun H locs hw => ?_) rfl rfl
      refine lv_istore_n (lv' := [(3, .int v6), (0, .ref (q 0)), (1, .int x1), (2, .int x2)]) hx hb dX7_mark_25 rfl hl (by decide) rfl (fun ls hl => ?_)
      refine lv_iload_n hx hb dX7_mark_26 rfl (lv_at hl 2 rfl) ?_
      by_cases hc0 : x1 = 0
      · have hf := x_pos hc0 hf
        refine lv_tableIn (off := 33) (tgt := 60) hx hb dX7_mark_27 (by rw [hc0]; decide) (by rw [hc0]; decide) (by rw [hc0]; decide) (by decide) ?_
        refine lv_aload_n hx hb dX7_mark_60 rfl (lv_at hl 1 rfl) ?_
        refine lv_dup hx hb dX7_mark_61 rfl ?_
        refine x_get B hw (Tb := TX7) inX7 0 (by decide) rfl rfl 0 (by decide) u690 (fun _ h => h) rfl dX7_mark_62 ?_
        refine lv_lconst (v := 1) hx hb dX7_mark_65 (by decide) ?_
        refine lv_ladd hx hb dX7_mark_66 ?_
        refine x_put B hw (Tb := TX7) inX7 tyX7 tyX7_ok nmX7 0 (by decide) rfl rfl 0 (by decide) u690 (fun _ h => h) rfl (ty := .long) (by decide +kernel) rfl rfl (Nat.le_of_ble_eq_true rfl) (S1 := upL S5 0 0 ((S5.2 0 0) + 1)) rfl (fun _ _ => rfl) upL_o dX7_mark_67 hf (fun S7 H locs hw hf => ?_)
        refine lv_iload_n hx hb dX7_mark_70 rfl (lv_at hl 0 rfl) ?_
        exact x_iret B hw hf dX7_mark_71
      have hf := x_neg hc0 hf
      by_cases hc1 : x1 = 1
      · have hf := x_pos hc1 hf
        refine lv_tableIn (off := 45) (tgt := 72) hx hb dX7_mark_27 (by rw [hc1]; decide) (by rw [hc1]; decide) (by rw [hc1]; decide) (by decide) ?_
        refine lv_aload_n hx hb dX7_mark_72 rfl (lv_at hl 1 rfl) ?_
        refine lv_dup hx hb dX7_mark_73 rfl ?_
        refine x_get B hw (Tb := TX7) inX7 0 (by decide) rfl rfl 0 (by decide) u690 (fun _ h => h) rfl dX7_mark_74 ?_
        refine lv_ldc2 (v := 11) hx hb hown (hts _ u959) dX7_mark_77 ?_
        refine lv_ladd hx hb dX7_mark_80 ?_
        refine x_put B hw (Tb := TX7) inX7 tyX7 tyX7_ok nmX7 0 (by decide) rfl rfl 0 (by decide) u690 (fun _ h => h) rfl (ty := .long) (by decide +kernel) rfl rfl (Nat.le_of_ble_eq_true rfl) (S1 := upL S5 0 0 ((S5.2 0 0) + 11)) rfl (fun _ _ => rfl) upL_o dX7_mark_81 hf (fun S8 H locs hw hf => ?_)
        refine lv_iconst (v := 2) hx hb dX7_mark_84 (by decide) ?_
        refine lv_iload_n hx hb dX7_mark_85 rfl (lv_at hl 0 rfl) ?_
        refine lv_imul hx hb dX7_mark_86 ?_
        exact x_iret B hw hf dX7_mark_87
      have hf := x_neg hc1 hf
      by_cases hc2 : x1 = 2
      · have hf := x_pos hc2 hf
        refine lv_tableIn (off := 61) (tgt := 88) hx hb dX7_mark_27 (by rw [hc2]; decide) (by rw [hc2]; decide) (by rw [hc2]; decide) (by decide) ?_
        refine lv_aload_n hx hb dX7_mark_88 rfl (lv_at hl 1 rfl) ?_
        refine lv_dup hx hb dX7_mark_89 rfl ?_
        refine x_get B hw (Tb := TX7) inX7 0 (by decide) rfl rfl 0 (by decide) u690 (fun _ h => h) rfl dX7_mark_90 ?_
        refine lv_ldc2 (v := 101) hx hb hown (hts _ u960) dX7_mark_93 ?_
        refine lv_ladd hx hb dX7_mark_96 ?_
        refine x_put B hw (Tb := TX7) inX7 tyX7 tyX7_ok nmX7 0 (by decide) rfl rfl 0 (by decide) u690 (fun _ h => h) rfl (ty := .long) (by decide +kernel) rfl rfl (Nat.le_of_ble_eq_true rfl) (S1 := upL S5 0 0 ((S5.2 0 0) + 101)) rfl (fun _ _ => rfl) upL_o dX7_mark_97 hf (fun S9 H locs hw hf => ?_)
        refine lv_iload_n hx hb dX7_mark_100 rfl (lv_at hl 0 rfl) ?_
        refine lv_aload_n hx hb dX7_mark_101 rfl (lv_at hl 1 rfl) ?_
        refine x_get B hw (Tb := TX7) inX7 0 (by decide) rfl rfl 7 (by decide) u697 (fun _ h => h) rfl dX7_mark_102 ?_
        refine lv_iload_n hx hb dX7_mark_105 rfl (lv_at hl 3 rfl) ?_
        refine x_iald B hw 6 (by decide) rfl dX7_mark_106 hf (fun v10 hf => ?_)
        refine lv_iadd hx hb dX7_mark_107 ?_
        exact x_iret B hw hf dX7_mark_108
      have hf := x_neg hc2 hf
      by_cases hc3 : x1 = 3
      · have hf := x_pos hc3 hf
        refine lv_tableIn (off := 82) (tgt := 109) hx hb dX7_mark_27 (by rw [hc3]; decide) (by rw [hc3]; decide) (by rw [hc3]; decide) (by decide) ?_
        refine lv_aload_n hx hb dX7_mark_109 rfl (lv_at hl 1 rfl) ?_
        refine lv_dup hx hb dX7_mark_110 rfl ?_
        refine x_get B hw (Tb := TX7) inX7 0 (by decide) rfl rfl 0 (by decide) u690 (fun _ h => h) rfl dX7_mark_111 ?_
        refine lv_ldc2 (v := 1011) hx hb hown (hts _ u961) dX7_mark_114 ?_
        refine lv_ladd hx hb dX7_mark_117 ?_
        refine x_put B hw (Tb := TX7) inX7 tyX7 tyX7_ok nmX7 0 (by decide) rfl rfl 0 (by decide) u690 (fun _ h => h) rfl (ty := .long) (by decide +kernel) rfl rfl (Nat.le_of_ble_eq_true rfl) (S1 := upL S5 0 0 ((S5.2 0 0) + 1011)) rfl (fun _ _ => rfl) upL_o dX7_mark_118 hf (fun S11 H locs hw hf => ?_)
        refine lv_iconst (v := 2) hx hb dX7_mark_121 (by decide) ?_
        refine lv_iload_n hx hb dX7_mark_122 rfl (lv_at hl 0 rfl) ?_
        refine lv_imul hx hb dX7_mark_123 ?_
        refine lv_iload_n hx hb dX7_mark_124 rfl (lv_at hl 3 rfl) ?_
        refine lv_iadd hx hb dX7_mark_125 ?_
        exact x_iret B hw hf dX7_mark_126
      have hf := x_neg hc3 hf
      by_cases hc4 : x1 = 4
      · have hf := x_pos hc4 hf
        refine lv_tableIn (off := 100) (tgt := 127) hx hb dX7_mark_27 (by rw [hc4]; decide) (by rw [hc4]; decide) (by rw [hc4]; decide) (by decide) ?_
        refine lv_aload_n hx hb dX7_mark_127 rfl (lv_at hl 1 rfl) ?_
        refine lv_dup hx hb dX7_mark_128 rfl ?_
        refine x_get B hw (Tb := TX7) inX7 0 (by decide) rfl rfl 0 (by decide) u690 (fun _ h => h) rfl dX7_mark_129 ?_
        refine lv_ldc2 (v := 10101) hx hb hown (hts _ u962) dX7_mark_132 ?_
        refine lv_ladd hx hb dX7_mark_135 ?_
        refine x_put B hw (Tb := TX7) inX7 tyX7 tyX7_ok nmX7 0 (by decide) rfl rfl 0 (by decide) u690 (fun _ h => h) rfl (ty := .long) (by decide +kernel) rfl rfl (Nat.le_of_ble_eq_true rfl) (S1 := upL S5 0 0 ((S5.2 0 0) + 10101)) rfl (fun _ _ => rfl) upL_o dX7_mark_136 hf (fun S12 H locs hw hf => ?_)
        refine lv_iload_n hx hb dX7_mark_139 rfl (lv_at hl 0 rfl) ?_
        refine lv_aload_n hx hb dX7_mark_140 rfl (lv_at hl 1 rfl) ?_
        refine x_get B hw (Tb := TX7) inX7 0 (by decide) rfl rfl 7 (by decide) u697 (fun _ h => h) rfl dX7_mark_141 ?_
        refine lv_iload_n hx hb dX7_mark_144 rfl (lv_at hl 3 rfl) ?_
        refine x_iald B hw 6 (by decide) rfl dX7_mark_145 hf (fun v13 hf => ?_)
        refine lv_iadd hx hb dX7_mark_146 ?_
        refine lv_aload_n hx hb dX7_mark_147 rfl (lv_at hl 1 rfl) ?_
        refine x_get B hw (Tb := TX7) inX7 0 (by decide) rfl rfl 8 (by decide) u698 (fun _ h => h) rfl dX7_mark_148 ?_
        refine lv_iload_n hx hb dX7_mark_151 rfl (lv_at hl 3 rfl) ?_
        refine x_iald B hw 7 (by decide) rfl dX7_mark_152 hf (fun v14 hf => ?_)
        refine lv_isub hx hb dX7_mark_153 ?_
        exact x_iret B hw hf dX7_mark_154
      have hf := x_neg hc4 hf
      have hd0 : ¬ Int32.toInt x1 = 0 := x_ne hc0 (by decide)
      have hd1 : ¬ Int32.toInt x1 = 1 := x_ne hc1 (by decide)
      have hd2 : ¬ Int32.toInt x1 = 2 := x_ne hc2 (by decide)
      have hd3 : ¬ Int32.toInt x1 = 3 := x_ne hc3 (by decide)
      have hd4 : ¬ Int32.toInt x1 = 4 := x_ne hc4 (by decide)
      refine lv_tableOut (tgt := 155) hx hb dX7_mark_27 (by omega) (by decide) ?_
      refine lv_aload_n hx hb dX7_mark_155 rfl (lv_at hl 1 rfl) ?_
      refine lv_dup hx hb dX7_mark_156 rfl ?_
      refine x_get B hw (Tb := TX7) inX7 0 (by decide) rfl rfl 0 (by decide) u690 (fun _ h => h) rfl dX7_mark_157 ?_
      refine lv_ldc2 (v := 100001) hx hb hown (hts _ u963) dX7_mark_160 ?_
      refine lv_ladd hx hb dX7_mark_163 ?_
      refine x_put B hw (Tb := TX7) inX7 tyX7 tyX7_ok nmX7 0 (by decide) rfl rfl 0 (by decide) u690 (fun _ h => h) rfl (ty := .long) (by decide +kernel) rfl rfl (Nat.le_of_ble_eq_true rfl) (S1 := upL S5 0 0 ((S5.2 0 0) + 100001)) rfl (fun _ _ => rfl) upL_o dX7_mark_164 hf (fun S15 H locs hw hf => ?_)
      refine lv_iload_n hx hb dX7_mark_167 rfl (lv_at hl 0 rfl) ?_
      refine lv_aload_n hx hb dX7_mark_168 rfl (lv_at hl 1 rfl) ?_
      refine x_get B hw (Tb := TX7) inX7 0 (by decide) rfl rfl 16 (by decide) u706 (fun _ h => h) rfl dX7_mark_169 ?_
      refine lv_bipush (v := 32) hx hb dX7_mark_172 (by decide) ?_
      refine x_iald B hw 9 (by decide) rfl dX7_mark_174 hf (fun v16 hf => ?_)
      refine lv_iadd hx hb dX7_mark_175 ?_
      exact x_iret B hw hf dX7_mark_176
    · have hf := x_pos hc hf
      refine lv_ldc (v := (-1000000)) hx hb hown (hts _ u958) dX7_mark_17 ?_
      exact x_iret B hw hf dX7_mark_19

set_option maxHeartbeats 4000000 in
theorem jMod_mark_ok {x1 : Int32} {x2 : Int32} {S SF : St} {r : Int32} (hf : jMod_mark x1 x2 S = some (r, SF)) : XMet l D 17 (cellM T q) q T ExM yX7_mark cX7_mark 4 (some .int) ({ frames := 2, cells := 0, slots := 0, locals := 43 }) [.ref (q 0), .int x1, .int x2] S (some (.int r)) SF := by
  refine x_enter (own := RX7) (by decide +kernel) rfl (Nat.le_of_ble_eq_true rfl) (fun p e s m below meth c A B ls hw hl0 => ?_)
  have hl : lv_has ls 4 [(0, .ref (q 0)), (1, .int x1), (2, .int x2)] := hl0
  exact jMod_mark_b0_ok B x1 x2 S hf hw hl

set_option maxHeartbeats 4000000 in
theorem jMod_copy_b2_ok (B : XB p s m args meth c A cX7_copy 4 none RX7) {SF : St} (K2 : Int32 → Int32 → Int32 → St → Option (St)) (hK2 : ∀ (x1 : Int32) (x2 : Int32) (x3 : Int32) (S : St) (H : Heap) (locs : List Loc) (ls : Array Slot), K2 x1 x2 x3 S = some SF → Xw D 17 (cellM T q) q T ExM A s S H locs → lv_has ls 4 [(0, .ref (q 0)), (1, .int x1), (2, .int x2), (3, .int x3)] → XG p l e ({ frames := 0, cells := 0, slots := 0, locals := 0 }) s m args below meth c D 17 (cellM T q) q T A SF none H locs 2 ls [])  (x1 : Int32) (x2 : Int32) (x3 : Int32) (S : St) {H : Heap} {locs : List Loc} {ls : Array Slot} (hf : jMod_copy_b2 K2 x1 x2 x3 S = some SF) (hw : Xw D 17 (cellM T q) q T ExM A s S H locs) (hl : lv_has ls 4 [(0, .ref (q 0)), (1, .int x1), (2, .int x2), (3, .int x3)]) : XG p l e ({ frames := 0, cells := 0, slots := 0, locals := 0 }) s m args below meth c D 17 (cellM T q) q T A SF none H locs 2 ls [] := by
  unfold jMod_copy_b2 at hf
  obtain ⟨hx, hb, hr, hml, hown, hts, hlk, hA⟩ := id B
  refine lv_iload_n hx hb dX7_copy_2 rfl (lv_at hl 3 rfl) ?_
  refine lv_bipush (v := 73) hx hb dX7_copy_3 (by decide) ?_
  refine lv_icmp_ge (tgt := 30) hx hb dX7_copy_5 (by decide) (fun hc => ?_) (fun hc => ?_)
  · have hf := x_pos hc hf
    exact x_vret B hw hf dX7_copy_30
  · have hf := x_neg hc hf
    refine lv_aload_n hx hb dX7_copy_8 rfl (lv_at hl 0 rfl) ?_
    refine x_get B hw (Tb := TX7) inX7 0 (by decide) rfl rfl 16 (by decide) u706 (fun _ h => h) rfl dX7_copy_9 ?_
    refine lv_iload_n hx hb dX7_copy_12 rfl (lv_at hl 2 rfl) ?_
    refine lv_iload_n hx hb dX7_copy_13 rfl (lv_at hl 3 rfl) ?_
    refine lv_iadd hx hb dX7_copy_14 ?_
    refine lv_aload_n hx hb dX7_copy_15 rfl (lv_at hl 0 rfl) ?_
    refine x_get B hw (Tb := TX7) inX7 0 (by decide) rfl rfl 16 (by decide) u706 (fun _ h => h) rfl dX7_copy_16 ?_
    refine lv_iload_n hx hb dX7_copy_19 rfl (lv_at hl 1 rfl) ?_
    refine lv_iload_n hx hb dX7_copy_20 rfl (lv_at hl 3 rfl) ?_
    refine lv_iadd hx hb dX7_copy_21 ?_
    refine x_iald B hw 9 (by decide) rfl dX7_copy_22 hf (fun v1 hf => ?_)
    refine x_iast B hw 9 (by decide) (fun _ _ => rfl) dX7_copy_23 hf (fun S2 H locs hw hf => ?_)
    refine lv_iinc (v := x3 + 1) (lv' := [(3, .int (x3 + 1)), (0, .ref (q 0)), (1, .int x1), (2, .int x2)]) hx hb dX7_copy_24 hl (k := 3) rfl xi_1 (by decide) rfl (fun ls hl => ?_)
    refine lv_goto (tgt := 2) hx hb dX7_copy_27 (by decide) ?_
    exact hK2 x1 x2 (x3 + 1) S2 _ _ _ hf hw (lv_sub hl [1, 2, 3, 0] rfl)

theorem jMod_copy_h2_ok (B : XB p s m args meth c A cX7_copy 4 none RX7) {SF : St} : ∀ (n : Nat) (x1 : Int32) (x2 : Int32) (x3 : Int32) (S : St) (H : Heap) (locs : List Loc) (ls : Array Slot), jMod_copy_h2 n x1 x2 x3 S = some SF → Xw D 17 (cellM T q) q T ExM A s S H locs → lv_has ls 4 [(0, .ref (q 0)), (1, .int x1), (2, .int x2), (3, .int x3)] → XG p l e ({ frames := 0, cells := 0, slots := 0, locals := 0 }) s m args below meth c D 17 (cellM T q) q T A SF none H locs 2 ls [] := by
  intro n
  induction n with
  | zero =>
    intro x1 x2 x3 S H locs ls hf hw hl
    rw [jMod_copy_h2] at hf
    cases hf
  | succ n ih =>
    intro x1 x2 x3 S H locs ls hf hw hl
    rw [jMod_copy_h2] at hf
    exact jMod_copy_b2_ok B (jMod_copy_h2 n) ih x1 x2 x3 S hf hw hl

set_option maxHeartbeats 4000000 in
theorem jMod_copy_b0_ok (B : XB p s m args meth c A cX7_copy 4 none RX7) {SF : St}  (x1 : Int32) (x2 : Int32) (S : St) {H : Heap} {locs : List Loc} {ls : Array Slot} (hf : jMod_copy x1 x2 S = some SF) (hw : Xw D 17 (cellM T q) q T ExM A s S H locs) (hl : lv_has ls 4 [(0, .ref (q 0)), (1, .int x1), (2, .int x2)]) : XG p l e ({ frames := 0, cells := 0, slots := 0, locals := 0 }) s m args below meth c D 17 (cellM T q) q T A SF none H locs 0 ls [] := by
  unfold jMod_copy at hf
  obtain ⟨hx, hb, hr, hml, hown, hts, hlk, hA⟩ := id B
  refine lv_iconst (v := 0) hx hb dX7_copy_0 (by decide) ?_
  refine lv_istore_n (lv' := [(3, .int 0), (0, .ref (q 0)), (1, .int x1), (2, .int x2)]) hx hb dX7_copy_1 rfl hl (by decide) rfl (fun ls hl => ?_)
  exact jMod_copy_h2_ok B FU x1 x2 0 S _ _ _ hf hw (lv_sub hl [1, 2, 3, 0] rfl)

set_option maxHeartbeats 4000000 in
theorem jMod_copy_ok {x1 : Int32} {x2 : Int32} {S SF : St} (hf : jMod_copy x1 x2 S = some SF) : XMet l D 17 (cellM T q) q T ExM yX7_copy cX7_copy 4 none ({ frames := 0, cells := 0, slots := 0, locals := 0 }) [.ref (q 0), .int x1, .int x2] S none SF := by
  refine x_enter (own := RX7) (by decide +kernel) rfl (Nat.le_of_ble_eq_true rfl) (fun p e s m below meth c A B ls hw hl0 => ?_)
  have hl : lv_has ls 4 [(0, .ref (q 0)), (1, .int x1), (2, .int x2)] := hl0
  exact jMod_copy_b0_ok B x1 x2 S hf hw hl

set_option maxHeartbeats 4000000 in
theorem jMod_keep_b0_ok (B : XB p s m args meth c A cX7_keep 2 (some .int) RX7) {SF : St} {r : Int32}  (x1 : Int32) (S : St) {H : Heap} {locs : List Loc} {ls : Array Slot} (hf : jMod_keep x1 S = some (r, SF)) (hw : Xw D 17 (cellM T q) q T ExM A s S H locs) (hl : lv_has ls 2 [(0, .ref (q 0)), (1, .int x1)]) : XG p l e ({ frames := 1, cells := 0, slots := 0, locals := 23 }) s m args below meth c D 17 (cellM T q) q T A SF (some (.int r)) H locs 0 ls [] := by
  unfold jMod_keep at hf
  obtain ⟨hx, hb, hr, hml, hown, hts, hlk, hA⟩ := id B
  refine lv_iload_n hx hb dX7_keep_0 rfl (lv_at hl 1 rfl) ?_
  refine lv_iconst (v := 0) hx hb dX7_keep_1 (by decide) ?_
  refine lv_iconst (v := 1) hx hb dX7_keep_2 (by decide) ?_
  obtain ⟨v2, S1, hc, hf⟩ := x_bd_some hf
  refine x_callS B ExM_ok hw (As := [.int x1, .int 0, .int 1]) (rest := []) (st1 := [.int v2]) (jMod_in_ok hc) u768 u769 u45 u770 hdX7_in rfl ⟨Nat.le_of_ble_eq_true rfl, Nat.le_of_ble_eq_true rfl⟩ ⟨rfl, rfl⟩ hl.1 (Nat.le_of_ble_eq_true rfl) dX7_keep_3 (fun H locs hw => ?_) rfl rfl
  refine lv_if_ne (tgt := 11) hx hb dX7_keep_6 (by decide) (fun hc => ?_) (fun hc => ?_)
  · have hf := x_neg hc hf
    refine lv_aload_n hx hb dX7_keep_11 rfl (lv_at hl 0 rfl) ?_
    refine lv_iconst (v := 0) hx hb dX7_keep_12 (by decide) ?_
    refine lv_bipush (v := 73) hx hb dX7_keep_13 (by decide) ?_
    refine lv_iconst (v := 1) hx hb dX7_keep_15 (by decide) ?_
    refine lv_iload_n hx hb dX7_keep_16 rfl (lv_at hl 1 rfl) ?_
    refine lv_iadd hx hb dX7_keep_17 ?_
    refine lv_imul hx hb dX7_keep_18 ?_
    obtain ⟨S3, hc, hf⟩ := x_bv_some hf
    refine x_callV B ExM_ok hw 0 (by decide) rfl rfl (As := [.int 0, .int (73 * (1 + x1))]) (rest := []) (st1 := []) (jMod_copy_ok hc) u968 u970 u36 u45 u971 hdX7_copy rfl ⟨Nat.le_of_ble_eq_true rfl, Nat.le_of_ble_eq_true rfl⟩ ⟨rfl, rfl⟩ hl.1 (Nat.le_of_ble_eq_true rfl) dX7_keep_19 (fun H locs hw => ?_) rfl rfl
    refine lv_aload_n hx hb dX7_keep_22 rfl (lv_at hl 0 rfl) ?_
    refine x_get B hw (Tb := TX7) inX7 0 (by decide) rfl rfl 17 (by decide) u707 (fun _ h => h) rfl dX7_keep_23 ?_
    refine lv_iload_n hx hb dX7_keep_26 rfl (lv_at hl 1 rfl) ?_
    refine lv_iconst (v := 1) hx hb dX7_keep_27 (by decide) ?_
    refine x_zast B hw 10 (by decide) (fun _ _ => rfl) dX7_keep_28 hf (fun S4 H locs hw hf => ?_)
    refine lv_aload_n hx hb dX7_keep_29 rfl (lv_at hl 0 rfl) ?_
    refine x_get B hw (Tb := TX7) inX7 0 (by decide) rfl rfl 16 (by decide) u706 (fun _ h => h) rfl dX7_keep_30 ?_
    refine lv_bipush (v := 32) hx hb dX7_keep_33 (by decide) ?_
    refine x_iald B hw 9 (by decide) rfl dX7_keep_35 hf (fun v5 hf => ?_)
    exact x_iret B hw hf dX7_keep_36
  · have hf := x_pos hc hf
    refine lv_iconst (v := (-1)) hx hb dX7_keep_9 (by decide) ?_
    exact x_iret B hw hf dX7_keep_10

set_option maxHeartbeats 4000000 in
theorem jMod_keep_ok {x1 : Int32} {S SF : St} {r : Int32} (hf : jMod_keep x1 S = some (r, SF)) : XMet l D 17 (cellM T q) q T ExM yX7_keep cX7_keep 2 (some .int) ({ frames := 1, cells := 0, slots := 0, locals := 23 }) [.ref (q 0), .int x1] S (some (.int r)) SF := by
  refine x_enter (own := RX7) (by decide +kernel) rfl (Nat.le_of_ble_eq_true rfl) (fun p e s m below meth c A B ls hw hl0 => ?_)
  have hl : lv_has ls 2 [(0, .ref (q 0)), (1, .int x1)] := hl0
  exact jMod_keep_b0_ok B x1 S hf hw hl

set_option maxHeartbeats 4000000 in
theorem jMod_back_b0_ok (B : XB p s m args meth c A cX7_back 2 (some .int) RX7) {SF : St} {r : Int32}  (x1 : Int32) (S : St) {H : Heap} {locs : List Loc} {ls : Array Slot} (hf : jMod_back x1 S = some (r, SF)) (hw : Xw D 17 (cellM T q) q T ExM A s S H locs) (hl : lv_has ls 2 [(0, .ref (q 0)), (1, .int x1)]) : XG p l e ({ frames := 1, cells := 0, slots := 0, locals := 23 }) s m args below meth c D 17 (cellM T q) q T A SF (some (.int r)) H locs 0 ls [] := by
  unfold jMod_back at hf
  obtain ⟨hx, hb, hr, hml, hown, hts, hlk, hA⟩ := id B
  refine lv_iload_n hx hb dX7_back_0 rfl (lv_at hl 1 rfl) ?_
  refine lv_iconst (v := 0) hx hb dX7_back_1 (by decide) ?_
  refine lv_iconst (v := 1) hx hb dX7_back_2 (by decide) ?_
  obtain ⟨v2, S1, hc, hf⟩ := x_bd_some hf
  refine x_callS B ExM_ok hw (As := [.int x1, .int 0, .int 1]) (rest := []) (st1 := [.int v2]) (jMod_in_ok hc) u768 u769 u45 u770 hdX7_in rfl ⟨Nat.le_of_ble_eq_true rfl, Nat.le_of_ble_eq_true rfl⟩ ⟨rfl, rfl⟩ hl.1 (Nat.le_of_ble_eq_true rfl) dX7_back_3 (fun H locs hw => ?_) rfl rfl
  refine lv_if_ne (tgt := 11) hx hb dX7_back_6 (by decide) (fun hc => ?_) (fun hc => ?_)
  · have hf := x_neg hc hf
    refine lv_aload_n hx hb dX7_back_11 rfl (lv_at hl 0 rfl) ?_
    refine x_get B hw (Tb := TX7) inX7 0 (by decide) rfl rfl 17 (by decide) u707 (fun _ h => h) rfl dX7_back_12 ?_
    refine lv_iload_n hx hb dX7_back_15 rfl (lv_at hl 1 rfl) ?_
    refine x_zald B hw 10 (by decide) rfl dX7_back_16 hf (fun v3 hf => ?_)
    refine lv_if_ne (tgt := 23) hx hb dX7_back_17 (by decide) (fun hc => ?_) (fun hc => ?_)
    · have hf := x_neg hc hf
      refine lv_aload_n hx hb dX7_back_23 rfl (lv_at hl 0 rfl) ?_
      refine lv_bipush (v := 73) hx hb dX7_back_24 (by decide) ?_
      refine lv_iconst (v := 1) hx hb dX7_back_26 (by decide) ?_
      refine lv_iload_n hx hb dX7_back_27 rfl (lv_at hl 1 rfl) ?_
      refine lv_iadd hx hb dX7_back_28 ?_
      refine lv_imul hx hb dX7_back_29 ?_
      refine lv_iconst (v := 0) hx hb dX7_back_30 (by decide) ?_
      obtain ⟨S4, hc, hf⟩ := x_bv_some hf
      refine x_callV B ExM_ok hw 0 (by decide) rfl rfl (As := [.int (73 * (1 + x1)), .int 0]) (rest := []) (st1 := []) (jMod_copy_ok hc) u968 u970 u36 u45 u971 hdX7_copy rfl ⟨Nat.le_of_ble_eq_true rfl, Nat.le_of_ble_eq_true rfl⟩ ⟨rfl, rfl⟩ hl.1 (Nat.le_of_ble_eq_true rfl) dX7_back_31 (fun H locs hw => ?_) rfl rfl
      refine lv_aload_n hx hb dX7_back_34 rfl (lv_at hl 0 rfl) ?_
      refine x_get B hw (Tb := TX7) inX7 0 (by decide) rfl rfl 16 (by decide) u706 (fun _ h => h) rfl dX7_back_35 ?_
      refine lv_bipush (v := 32) hx hb dX7_back_38 (by decide) ?_
      refine x_iald B hw 9 (by decide) rfl dX7_back_40 hf (fun v5 hf => ?_)
      exact x_iret B hw hf dX7_back_41
    · have hf := x_pos hc hf
      refine lv_bipush (v := (-2)) hx hb dX7_back_20 (by decide) ?_
      exact x_iret B hw hf dX7_back_22
  · have hf := x_pos hc hf
    refine lv_iconst (v := (-1)) hx hb dX7_back_9 (by decide) ?_
    exact x_iret B hw hf dX7_back_10

set_option maxHeartbeats 4000000 in
theorem jMod_back_ok {x1 : Int32} {S SF : St} {r : Int32} (hf : jMod_back x1 S = some (r, SF)) : XMet l D 17 (cellM T q) q T ExM yX7_back cX7_back 2 (some .int) ({ frames := 1, cells := 0, slots := 0, locals := 23 }) [.ref (q 0), .int x1] S (some (.int r)) SF := by
  refine x_enter (own := RX7) (by decide +kernel) rfl (Nat.le_of_ble_eq_true rfl) (fun p e s m below meth c A B ls hw hl0 => ?_)
  have hl : lv_has ls 2 [(0, .ref (q 0)), (1, .int x1)] := hl0
  exact jMod_back_b0_ok B x1 S hf hw hl
end
