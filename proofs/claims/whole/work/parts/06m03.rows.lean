section
variable {p : Program} {l : Launch} {e : Env} {s : State} {m : MethodId} {args : Array Value} {below : List Frame} {meth : Method} {c : Code} {D : va_G} {q aK aV : Nat → Nat} {T : Nat → ClassId} {A : Nat → Prop}
set_option maxHeartbeats 4000000 in
theorem jMod_unitsFor_b100_ok (B : XB p s m args meth c A cX7_unitsFor 7 (some .int) RX7) {SF : St} {r : Int32} (K6 : Int32 → Int32 → Int32 → Int32 → St → Option (Int32 × St)) (hK6 : ∀ (x1 : Int32) (x2 : Int32) (x3 : Int32) (x4 : Int32) (S : St) (H : Heap) (locs : List Loc) (ls : Array Slot), K6 x1 x2 x3 x4 S = some (r, SF) → Xw D 17 (cellM T q) q T ExM A s S H locs → lv_has ls 7 [(0, .ref (q 0)), (1, .int x1), (2, .int x2), (3, .int x3), (4, .int x4)] → XG p l e ({ frames := 1, cells := 0, slots := 0, locals := 25 }) s m args below meth c D 17 (cellM T q) q T A SF (some (.int r)) H locs 6 ls []) (K100 : Int32 → Int32 → Int32 → Int32 → Int32 → St → Option (Int32 × St)) (hK100 : ∀ (x1 : Int32) (x2 : Int32) (x3 : Int32) (x4 : Int32) (x6 : Int32) (S : St) (H : Heap) (locs : List Loc) (ls : Array Slot), K100 x1 x2 x3 x4 x6 S = some (r, SF) → Xw D 17 (cellM T q) q T ExM A s S H locs → lv_has ls 7 [(0, .ref (q 0)), (1, .int x1), (2, .int x2), (3, .int x3), (4, .int x4), (6, .int x6)] → XG p l e ({ frames := 1, cells := 0, slots := 0, locals := 25 }) s m args below meth c D 17 (cellM T q) q T A SF (some (.int r)) H locs 100 ls [])  (x1 : Int32) (x2 : Int32) (x3 : Int32) (x4 : Int32) (x6 : Int32) (S : St) {H : Heap} {locs : List Loc} {ls : Array Slot} (hf : jMod_unitsFor_b100 K6 K100 x1 x2 x3 x4 x6 S = some (r, SF)) (hw : Xw D 17 (cellM T q) q T ExM A s S H locs) (hl : lv_has ls 7 [(0, .ref (q 0)), (1, .int x1), (2, .int x2), (3, .int x3), (4, .int x4), (6, .int x6)]) : XG p l e ({ frames := 1, cells := 0, slots := 0, locals := 25 }) s m args below meth c D 17 (cellM T q) q T A SF (some (.int r)) H locs 100 ls [] := by
  unfold jMod_unitsFor_b100 at hf
  obtain ⟨hx, hb, hr, hml, hown, hts, hlk, hA⟩ := id B
  refine lv_iload hx hb dX7_unitsFor_100 (lv_at hl 5 rfl) ?_
  refine lv_iconst (v := 3) hx hb dX7_unitsFor_102 (by decide) ?_
  refine lv_icmp_ge (tgt := 126) hx hb dX7_unitsFor_103 (by decide) (fun hc => ?_) (fun hc => ?_)
  · have hf := x_pos hc hf
    refine lv_iinc (v := x4 + 1) (lv' := [(4, .int (x4 + 1)), (0, .ref (q 0)), (1, .int x1), (2, .int x2), (3, .int x3), (6, .int x6)]) hx hb dX7_unitsFor_126 hl (k := 4) rfl xi_1 (by decide) rfl (fun ls hl => ?_)
    refine lv_goto (tgt := 6) hx hb dX7_unitsFor_129 (by decide) ?_
    exact hK6 x1 x2 x3 (x4 + 1) S _ _ _ hf hw (lv_sub hl [1, 2, 3, 4, 0] rfl)
  · have hf := x_neg hc hf
    refine lv_aload_n hx hb dX7_unitsFor_106 rfl (lv_at hl 0 rfl) ?_
    refine x_get B hw (Tb := TX7) inX7 0 (by decide) rfl rfl 19 (by decide) u709 (fun _ h => h) rfl dX7_unitsFor_107 ?_
    refine lv_iload hx hb dX7_unitsFor_110 (lv_at hl 5 rfl) ?_
    refine lv_aload_n hx hb dX7_unitsFor_112 rfl (lv_at hl 0 rfl) ?_
    refine x_get B hw (Tb := TX7) inX7 0 (by decide) rfl rfl 18 (by decide) u708 (fun _ h => h) rfl dX7_unitsFor_113 ?_
    refine lv_iload hx hb dX7_unitsFor_116 (lv_at hl 5 rfl) ?_
    refine x_iald B hw 11 (by decide) rfl dX7_unitsFor_118 hf (fun v5 hf => ?_)
    refine x_iast B hw 12 (by decide) (fun _ _ => rfl) dX7_unitsFor_119 hf (fun S6 H locs hw hf => ?_)
    refine lv_iinc (v := x6 + 1) (lv' := [(6, .int (x6 + 1)), (0, .ref (q 0)), (1, .int x1), (2, .int x2), (3, .int x3), (4, .int x4)]) hx hb dX7_unitsFor_120 hl (k := 5) rfl xi_1 (by decide) rfl (fun ls hl => ?_)
    refine lv_goto (tgt := 100) hx hb dX7_unitsFor_123 (by decide) ?_
    exact hK100 x1 x2 x3 x4 (x6 + 1) S6 _ _ _ hf hw (lv_sub hl [1, 2, 3, 4, 5, 0] rfl)

theorem jMod_unitsFor_h100_ok (B : XB p s m args meth c A cX7_unitsFor 7 (some .int) RX7) {SF : St} {r : Int32} (K6 : Int32 → Int32 → Int32 → Int32 → St → Option (Int32 × St)) (hK6 : ∀ (x1 : Int32) (x2 : Int32) (x3 : Int32) (x4 : Int32) (S : St) (H : Heap) (locs : List Loc) (ls : Array Slot), K6 x1 x2 x3 x4 S = some (r, SF) → Xw D 17 (cellM T q) q T ExM A s S H locs → lv_has ls 7 [(0, .ref (q 0)), (1, .int x1), (2, .int x2), (3, .int x3), (4, .int x4)] → XG p l e ({ frames := 1, cells := 0, slots := 0, locals := 25 }) s m args below meth c D 17 (cellM T q) q T A SF (some (.int r)) H locs 6 ls []) : ∀ (n : Nat) (x1 : Int32) (x2 : Int32) (x3 : Int32) (x4 : Int32) (x6 : Int32) (S : St) (H : Heap) (locs : List Loc) (ls : Array Slot), jMod_unitsFor_h100 K6 n x1 x2 x3 x4 x6 S = some (r, SF) → Xw D 17 (cellM T q) q T ExM A s S H locs → lv_has ls 7 [(0, .ref (q 0)), (1, .int x1), (2, .int x2), (3, .int x3), (4, .int x4), (6, .int x6)] → XG p l e ({ frames := 1, cells := 0, slots := 0, locals := 25 }) s m args below meth c D 17 (cellM T q) q T A SF (some (.int r)) H locs 100 ls [] := by
  intro n
  induction n with
  | zero =>
    intro x1 x2 x3 x4 x6 S H locs ls hf hw hl
    rw [jMod_unitsFor_h100] at hf
    cases hf
  | succ n ih =>
    intro x1 x2 x3 x4 x6 S H locs ls hf hw hl
    rw [jMod_unitsFor_h100] at hf
    exact jMod_unitsFor_b100_ok B K6 hK6 (jMod_unitsFor_h100 K6 n) ih x1 x2 x3 x4 x6 S hf hw hl

set_option maxHeartbeats 4000000 in
theorem jMod_unitsFor_b38_ok (B : XB p s m args meth c A cX7_unitsFor 7 (some .int) RX7) {SF : St} {r : Int32} (K6 : Int32 → Int32 → Int32 → Int32 → St → Option (Int32 × St)) (hK6 : ∀ (x1 : Int32) (x2 : Int32) (x3 : Int32) (x4 : Int32) (S : St) (H : Heap) (locs : List Loc) (ls : Array Slot), K6 x1 x2 x3 x4 S = some (r, SF) → Xw D 17 (cellM T q) q T ExM A s S H locs → lv_has ls 7 [(0, .ref (q 0)), (1, .int x1), (2, .int x2), (3, .int x3), (4, .int x4)] → XG p l e ({ frames := 1, cells := 0, slots := 0, locals := 25 }) s m args below meth c D 17 (cellM T q) q T A SF (some (.int r)) H locs 6 ls []) (K38 : Int32 → Int32 → Int32 → Int32 → Int32 → Int32 → St → Option (Int32 × St)) (hK38 : ∀ (x1 : Int32) (x2 : Int32) (x3 : Int32) (x4 : Int32) (x5 : Int32) (x6 : Int32) (S : St) (H : Heap) (locs : List Loc) (ls : Array Slot), K38 x1 x2 x3 x4 x5 x6 S = some (r, SF) → Xw D 17 (cellM T q) q T ExM A s S H locs → lv_has ls 7 [(0, .ref (q 0)), (1, .int x1), (2, .int x2), (3, .int x3), (4, .int x4), (5, .int x5), (6, .int x6)] → XG p l e ({ frames := 1, cells := 0, slots := 0, locals := 25 }) s m args below meth c D 17 (cellM T q) q T A SF (some (.int r)) H locs 38 ls [])  (x1 : Int32) (x2 : Int32) (x3 : Int32) (x4 : Int32) (x5 : Int32) (x6 : Int32) (S : St) {H : Heap} {locs : List Loc} {ls : Array Slot} (hf : jMod_unitsFor_b38 K6 K38 x1 x2 x3 x4 x5 x6 S = some (r, SF)) (hw : Xw D 17 (cellM T q) q T ExM A s S H locs) (hl : lv_has ls 7 [(0, .ref (q 0)), (1, .int x1), (2, .int x2), (3, .int x3), (4, .int x4), (5, .int x5), (6, .int x6)]) : XG p l e ({ frames := 1, cells := 0, slots := 0, locals := 25 }) s m args below meth c D 17 (cellM T q) q T A SF (some (.int r)) H locs 38 ls [] := by
  unfold jMod_unitsFor_b38 at hf
  obtain ⟨hx, hb, hr, hml, hown, hts, hlk, hA⟩ := id B
  refine lv_iload hx hb dX7_unitsFor_38 (lv_at hl 6 rfl) ?_
  refine lv_iconst (v := 3) hx hb dX7_unitsFor_40 (by decide) ?_
  refine lv_icmp_ge (tgt := 82) hx hb dX7_unitsFor_41 (by decide) (fun hc => ?_) (fun hc => ?_)
  · have hf := x_pos hc hf
    refine lv_iload_n hx hb dX7_unitsFor_82 rfl (lv_at hl 3 rfl) ?_
    refine lv_bipush (v := (-9)) hx hb dX7_unitsFor_83 (by decide) ?_
    refine lv_icmp_eq (tgt := 94) hx hb dX7_unitsFor_85 (by decide) (fun hc => ?_) (fun hc => ?_)
    · have hf := x_pos hc hf
      refine lv_iload hx hb dX7_unitsFor_94 (lv_at hl 5 rfl) ?_
      refine lv_istore_n (lv' := [(3, .int x5), (0, .ref (q 0)), (1, .int x1), (2, .int x2), (4, .int x4), (5, .int x5), (6, .int x6)]) hx hb dX7_unitsFor_96 rfl hl (by decide) rfl (fun ls hl => ?_)
      refine lv_iconst (v := 0) hx hb dX7_unitsFor_97 (by decide) ?_
      refine lv_istore (lv' := [(6, .int 0), (3, .int x5), (0, .ref (q 0)), (1, .int x1), (2, .int x2), (4, .int x4), (5, .int x5)]) hx hb dX7_unitsFor_98 hl (by decide) rfl (fun ls hl => ?_)
      exact jMod_unitsFor_h100_ok B K6 hK6 FU x1 x2 x5 x4 0 S _ _ _ hf hw (lv_sub hl [2, 3, 4, 1, 5, 0] rfl)
    · have hf := x_neg hc hf
      refine lv_iload hx hb dX7_unitsFor_88 (lv_at hl 5 rfl) ?_
      refine lv_iload_n hx hb dX7_unitsFor_90 rfl (lv_at hl 3 rfl) ?_
      refine lv_icmp_ge (tgt := 126) hx hb dX7_unitsFor_91 (by decide) (fun hc => ?_) (fun hc => ?_)
      · have hf := x_pos hc hf
        refine lv_iinc (v := x4 + 1) (lv' := [(4, .int (x4 + 1)), (0, .ref (q 0)), (1, .int x1), (2, .int x2), (3, .int x3), (5, .int x5), (6, .int x6)]) hx hb dX7_unitsFor_126 hl (k := 4) rfl xi_1 (by decide) rfl (fun ls hl => ?_)
        refine lv_goto (tgt := 6) hx hb dX7_unitsFor_129 (by decide) ?_
        exact hK6 x1 x2 x3 (x4 + 1) S _ _ _ hf hw (lv_sub hl [1, 2, 3, 4, 0] rfl)
      · have hf := x_neg hc hf
        refine lv_iload hx hb dX7_unitsFor_94 (lv_at hl 5 rfl) ?_
        refine lv_istore_n (lv' := [(3, .int x5), (0, .ref (q 0)), (1, .int x1), (2, .int x2), (4, .int x4), (5, .int x5), (6, .int x6)]) hx hb dX7_unitsFor_96 rfl hl (by decide) rfl (fun ls hl => ?_)
        refine lv_iconst (v := 0) hx hb dX7_unitsFor_97 (by decide) ?_
        refine lv_istore (lv' := [(6, .int 0), (3, .int x5), (0, .ref (q 0)), (1, .int x1), (2, .int x2), (4, .int x4), (5, .int x5)]) hx hb dX7_unitsFor_98 hl (by decide) rfl (fun ls hl => ?_)
        exact jMod_unitsFor_h100_ok B K6 hK6 FU x1 x2 x5 x4 0 S _ _ _ hf hw (lv_sub hl [2, 3, 4, 1, 5, 0] rfl)
  · have hf := x_neg hc hf
    refine lv_iload hx hb dX7_unitsFor_44 (lv_at hl 5 rfl) ?_
    refine lv_aload_n hx hb dX7_unitsFor_46 rfl (lv_at hl 0 rfl) ?_
    refine x_get B hw (Tb := TX7) inX7 0 (by decide) rfl rfl 18 (by decide) u708 (fun _ h => h) rfl dX7_unitsFor_47 ?_
    refine lv_iload hx hb dX7_unitsFor_50 (lv_at hl 6 rfl) ?_
    refine x_iald B hw 11 (by decide) rfl dX7_unitsFor_52 hf (fun v7 hf => ?_)
    refine lv_bipush (v := 8) hx hb dX7_unitsFor_53 (by decide) ?_
    refine lv_icmp_ge (tgt := 72) hx hb dX7_unitsFor_55 (by decide) (fun hc => ?_) (fun hc => ?_)
    · have hf := x_pos hc hf
      refine lv_iconst (v := 0) hx hb dX7_unitsFor_72 (by decide) ?_
      refine lv_iadd hx hb dX7_unitsFor_73 ?_
      refine x_leti hf (fun v8 hf => ?_)
      refine lv_istore (lv' := [(5, .int v8), (0, .ref (q 0)), (1, .int x1), (2, .int x2), (3, .int x3), (4, .int x4), (6, .int x6)]) hx hb dX7_unitsFor_74 hl (by decide) rfl (fun ls hl => ?_)
      refine lv_iinc (v := x6 + 1) (lv' := [(6, .int (x6 + 1)), (5, .int v8), (0, .ref (q 0)), (1, .int x1), (2, .int x2), (3, .int x3), (4, .int x4)]) hx hb dX7_unitsFor_76 hl (k := 6) rfl xi_1 (by decide) rfl (fun ls hl => ?_)
      refine lv_goto (tgt := 38) hx hb dX7_unitsFor_79 (by decide) ?_
      exact hK38 x1 x2 x3 x4 v8 (x6 + 1) S _ _ _ hf hw (lv_sub hl [2, 3, 4, 5, 6, 1, 0] rfl)
    · have hf := x_neg hc hf
      refine lv_aload_n hx hb dX7_unitsFor_58 rfl (lv_at hl 0 rfl) ?_
      refine lv_aload_n hx hb dX7_unitsFor_59 rfl (lv_at hl 0 rfl) ?_
      refine x_get B hw (Tb := TX7) inX7 0 (by decide) rfl rfl 18 (by decide) u708 (fun _ h => h) rfl dX7_unitsFor_60 ?_
      refine lv_iload hx hb dX7_unitsFor_63 (lv_at hl 6 rfl) ?_
      refine x_iald B hw 11 (by decide) rfl dX7_unitsFor_65 hf (fun v9 hf => ?_)
      obtain ⟨v11, S10, hc, hf⟩ := x_bd_some hf
      refine x_callV B ExM_ok hw 0 (by decide) rfl rfl (As := [.int v9]) (rest := [.int x5]) (st1 := [.int v11, .int x5]) (jMod_unitsOf_ok hc) u823 u825 u25 u45 u826 hdX7_unitsOf rfl ⟨Nat.le_of_ble_eq_true rfl, Nat.le_of_ble_eq_true rfl⟩ ⟨rfl, rfl⟩ hl.1 (Nat.le_of_ble_eq_true rfl) dX7_unitsFor_66 (fun H locs hw => ?_) rfl rfl
      refine lv_goto (tgt := 73) hx hb dX7_unitsFor_69 (by decide) ?_
      refine lv_iadd hx hb dX7_unitsFor_73 ?_
      refine x_leti hf (fun v12 hf => ?_)
      refine lv_istore (lv' := [(5, .int v12), (0, .ref (q 0)), (1, .int x1), (2, .int x2), (3, .int x3), (4, .int x4), (6, .int x6)]) hx hb dX7_unitsFor_74 hl (by decide) rfl (fun ls hl => ?_)
      refine lv_iinc (v := x6 + 1) (lv' := [(6, .int (x6 + 1)), (5, .int v12), (0, .ref (q 0)), (1, .int x1), (2, .int x2), (3, .int x3), (4, .int x4)]) hx hb dX7_unitsFor_76 hl (k := 6) rfl xi_1 (by decide) rfl (fun ls hl => ?_)
      refine lv_goto (tgt := 38) hx hb dX7_unitsFor_79 (by decide) ?_
      exact hK38 x1 x2 x3 x4 v12 (x6 + 1) S10 _ _ _ hf hw (lv_sub hl [2, 3, 4, 5, 6, 1, 0] rfl)

theorem jMod_unitsFor_h38_ok (B : XB p s m args meth c A cX7_unitsFor 7 (some .int) RX7) {SF : St} {r : Int32} (K6 : Int32 → Int32 → Int32 → Int32 → St → Option (Int32 × St)) (hK6 : ∀ (x1 : Int32) (x2 : Int32) (x3 : Int32) (x4 : Int32) (S : St) (H : Heap) (locs : List Loc) (ls : Array Slot), K6 x1 x2 x3 x4 S = some (r, SF) → Xw D 17 (cellM T q) q T ExM A s S H locs → lv_has ls 7 [(0, .ref (q 0)), (1, .int x1), (2, .int x2), (3, .int x3), (4, .int x4)] → XG p l e ({ frames := 1, cells := 0, slots := 0, locals := 25 }) s m args below meth c D 17 (cellM T q) q T A SF (some (.int r)) H locs 6 ls []) : ∀ (n : Nat) (x1 : Int32) (x2 : Int32) (x3 : Int32) (x4 : Int32) (x5 : Int32) (x6 : Int32) (S : St) (H : Heap) (locs : List Loc) (ls : Array Slot), jMod_unitsFor_h38 K6 n x1 x2 x3 x4 x5 x6 S = some (r, SF) → Xw D 17 (cellM T q) q T ExM A s S H locs → lv_has ls 7 [(0, .ref (q 0)), (1, .int x1), (2, .int x2), (3, .int x3), (4, .int x4), (5, .int x5), (6, .int x6)] → XG p l e ({ frames := 1, cells := 0, slots := 0, locals := 25 }) s m args below meth c D 17 (cellM T q) q T A SF (some (.int r)) H locs 38 ls [] := by
  intro n
  induction n with
  | zero =>
    intro x1 x2 x3 x4 x5 x6 S H locs ls hf hw hl
    rw [jMod_unitsFor_h38] at hf
    cases hf
  | succ n ih =>
    intro x1 x2 x3 x4 x5 x6 S H locs ls hf hw hl
    rw [jMod_unitsFor_h38] at hf
    exact jMod_unitsFor_b38_ok B K6 hK6 (jMod_unitsFor_h38 K6 n) ih x1 x2 x3 x4 x5 x6 S hf hw hl

set_option maxHeartbeats 4000000 in
theorem jMod_unitsFor_b6_ok (B : XB p s m args meth c A cX7_unitsFor 7 (some .int) RX7) {SF : St} {r : Int32} (K6 : Int32 → Int32 → Int32 → Int32 → St → Option (Int32 × St)) (hK6 : ∀ (x1 : Int32) (x2 : Int32) (x3 : Int32) (x4 : Int32) (S : St) (H : Heap) (locs : List Loc) (ls : Array Slot), K6 x1 x2 x3 x4 S = some (r, SF) → Xw D 17 (cellM T q) q T ExM A s S H locs → lv_has ls 7 [(0, .ref (q 0)), (1, .int x1), (2, .int x2), (3, .int x3), (4, .int x4)] → XG p l e ({ frames := 1, cells := 0, slots := 0, locals := 25 }) s m args below meth c D 17 (cellM T q) q T A SF (some (.int r)) H locs 6 ls [])  (x1 : Int32) (x2 : Int32) (x3 : Int32) (x4 : Int32) (S : St) {H : Heap} {locs : List Loc} {ls : Array Slot} (hf : jMod_unitsFor_b6 K6 x1 x2 x3 x4 S = some (r, SF)) (hw : Xw D 17 (cellM T q) q T ExM A s S H locs) (hl : lv_has ls 7 [(0, .ref (q 0)), (1, .int x1), (2, .int x2), (3, .int x3), (4, .int x4)]) : XG p l e ({ frames := 1, cells := 0, slots := 0, locals := 25 }) s m args below meth c D 17 (cellM T q) q T A SF (some (.int r)) H locs 6 ls [] := by
  unfold jMod_unitsFor_b6 at hf
  obtain ⟨hx, hb, hr, hml, hown, hts, hlk, hA⟩ := id B
  refine lv_iload hx hb dX7_unitsFor_6 (lv_at hl 4 rfl) ?_
  refine lv_sipush (v := 729) hx hb dX7_unitsFor_8 (by decide) ?_
  refine lv_icmp_ge (tgt := 132) hx hb dX7_unitsFor_11 (by decide) (fun hc => ?_) (fun hc => ?_)
  · have hf := x_pos hc hf
    refine lv_iload_n hx hb dX7_unitsFor_132 rfl (lv_at hl 3 rfl) ?_
    exact x_iret B hw hf dX7_unitsFor_133
  · have hf := x_neg hc hf
    refine lv_aload_n hx hb dX7_unitsFor_14 rfl (lv_at hl 0 rfl) ?_
    refine lv_iload hx hb dX7_unitsFor_15 (lv_at hl 4 rfl) ?_
    refine lv_iload_n hx hb dX7_unitsFor_17 rfl (lv_at hl 2 rfl) ?_
    obtain ⟨v2, S1, hc, hf⟩ := x_bd_some hf
    refine x_callV B ExM_ok hw 0 (by decide) rfl rfl (As := [.int x4, .int x2]) (rest := []) (st1 := [.int v2]) (jMod_isRow_ok hc) u870 u872 u29 u45 u873 hdX7_isRow rfl ⟨Nat.le_of_ble_eq_true rfl, Nat.le_of_ble_eq_true rfl⟩ ⟨rfl, rfl⟩ hl.1 (Nat.le_of_ble_eq_true rfl) dX7_unitsFor_18 (fun H locs hw => ?_) rfl rfl
    refine lv_if_eq (tgt := 126) hx hb dX7_unitsFor_21 (by decide) (fun hc => ?_) (fun hc => ?_)
    · have hf := x_pos hc hf
      refine lv_iinc (v := x4 + 1) (lv' := [(4, .int (x4 + 1)), (0, .ref (q 0)), (1, .int x1), (2, .int x2), (3, .int x3)]) hx hb dX7_unitsFor_126 hl (k := 4) rfl xi_1 (by decide) rfl (fun ls hl => ?_)
      refine lv_goto (tgt := 6) hx hb dX7_unitsFor_129 (by decide) ?_
      exact hK6 x1 x2 x3 (x4 + 1) S1 _ _ _ hf hw (lv_sub hl [1, 2, 3, 4, 0] rfl)
    · have hf := x_neg hc hf
      refine lv_aload_n hx hb dX7_unitsFor_24 rfl (lv_at hl 0 rfl) ?_
      refine lv_iload_n hx hb dX7_unitsFor_25 rfl (lv_at hl 1 rfl) ?_
      obtain ⟨v4, S3, hc, hf⟩ := x_bd_some hf
      refine x_callV B ExM_ok hw 0 (by decide) rfl rfl (As := [.int x1]) (rest := []) (st1 := [.int v4]) (jMod_hasAll_ok hc) u874 u876 u30 u45 u877 hdX7_hasAll rfl ⟨Nat.le_of_ble_eq_true rfl, Nat.le_of_ble_eq_true rfl⟩ ⟨rfl, rfl⟩ hl.1 (Nat.le_of_ble_eq_true rfl) dX7_unitsFor_26 (fun H locs hw => ?_) rfl rfl
      refine lv_if_eq (tgt := 126) hx hb dX7_unitsFor_29 (by decide) (fun hc => ?_) (fun hc => ?_)
      · have hf := x_pos hc hf
        refine lv_iinc (v := x4 + 1) (lv' := [(4, .int (x4 + 1)), (0, .ref (q 0)), (1, .int x1), (2, .int x2), (3, .int x3)]) hx hb dX7_unitsFor_126 hl (k := 4) rfl xi_1 (by decide) rfl (fun ls hl => ?_)
        refine lv_goto (tgt := 6) hx hb dX7_unitsFor_129 (by decide) ?_
        exact hK6 x1 x2 x3 (x4 + 1) S3 _ _ _ hf hw (lv_sub hl [1, 2, 3, 4, 0] rfl)
      · have hf := x_neg hc hf
        refine lv_iconst (v := 0) hx hb dX7_unitsFor_32 (by decide) ?_
        refine lv_istore (lv' := [(5, .int 0), (0, .ref (q 0)), (1, .int x1), (2, .int x2), (3, .int x3), (4, .int x4)]) hx hb dX7_unitsFor_33 hl (by decide) rfl (fun ls hl => ?_)
        refine lv_iconst (v := 0) hx hb dX7_unitsFor_35 (by decide) ?_
        refine lv_istore (lv' := [(6, .int 0), (5, .int 0), (0, .ref (q 0)), (1, .int x1), (2, .int x2), (3, .int x3), (4, .int x4)]) hx hb dX7_unitsFor_36 hl (by decide) rfl (fun ls hl => ?_)
        exact jMod_unitsFor_h38_ok B K6 hK6 FU x1 x2 x3 x4 0 0 S3 _ _ _ hf hw (lv_sub hl [2, 3, 4, 5, 6, 1, 0] rfl)

theorem jMod_unitsFor_h6_ok (B : XB p s m args meth c A cX7_unitsFor 7 (some .int) RX7) {SF : St} {r : Int32} : ∀ (n : Nat) (x1 : Int32) (x2 : Int32) (x3 : Int32) (x4 : Int32) (S : St) (H : Heap) (locs : List Loc) (ls : Array Slot), jMod_unitsFor_h6 n x1 x2 x3 x4 S = some (r, SF) → Xw D 17 (cellM T q) q T ExM A s S H locs → lv_has ls 7 [(0, .ref (q 0)), (1, .int x1), (2, .int x2), (3, .int x3), (4, .int x4)] → XG p l e ({ frames := 1, cells := 0, slots := 0, locals := 25 }) s m args below meth c D 17 (cellM T q) q T A SF (some (.int r)) H locs 6 ls [] := by
  intro n
  induction n with
  | zero =>
    intro x1 x2 x3 x4 S H locs ls hf hw hl
    rw [jMod_unitsFor_h6] at hf
    cases hf
  | succ n ih =>
    intro x1 x2 x3 x4 S H locs ls hf hw hl
    rw [jMod_unitsFor_h6] at hf
    exact jMod_unitsFor_b6_ok B (jMod_unitsFor_h6 n) ih x1 x2 x3 x4 S hf hw hl

set_option maxHeartbeats 4000000 in
theorem jMod_unitsFor_b0_ok (B : XB p s m args meth c A cX7_unitsFor 7 (some .int) RX7) {SF : St} {r : Int32}  (x1 : Int32) (x2 : Int32) (S : St) {H : Heap} {locs : List Loc} {ls : Array Slot} (hf : jMod_unitsFor x1 x2 S = some (r, SF)) (hw : Xw D 17 (cellM T q) q T ExM A s S H locs) (hl : lv_has ls 7 [(0, .ref (q 0)), (1, .int x1), (2, .int x2)]) : XG p l e ({ frames := 1, cells := 0, slots := 0, locals := 25 }) s m args below meth c D 17 (cellM T q) q T A SF (some (.int r)) H locs 0 ls [] := by
  unfold jMod_unitsFor at hf
  obtain ⟨hx, hb, hr, hml, hown, hts, hlk, hA⟩ := id B
  refine lv_bipush (v := (-9)) hx hb dX7_unitsFor_0 (by decide) ?_
  refine lv_istore_n (lv' := [(3, .int (-9)), (0, .ref (q 0)), (1, .int x1), (2, .int x2)]) hx hb dX7_unitsFor_2 rfl hl (by decide) rfl (fun ls hl => ?_)
  refine lv_iconst (v := 0) hx hb dX7_unitsFor_3 (by decide) ?_
  refine lv_istore (lv' := [(4, .int 0), (3, .int (-9)), (0, .ref (q 0)), (1, .int x1), (2, .int x2)]) hx hb dX7_unitsFor_4 hl (by decide) rfl (fun ls hl => ?_)
  exact jMod_unitsFor_h6_ok B FU x1 x2 (-9) 0 S _ _ _ hf hw (lv_sub hl [2, 3, 4, 1, 0] rfl)

set_option maxHeartbeats 4000000 in
theorem jMod_unitsFor_ok {x1 : Int32} {x2 : Int32} {S SF : St} {r : Int32} (hf : jMod_unitsFor x1 x2 S = some (r, SF)) : XMet l D 17 (cellM T q) q T ExM yX7_unitsFor cX7_unitsFor 7 (some .int) ({ frames := 1, cells := 0, slots := 0, locals := 25 }) [.ref (q 0), .int x1, .int x2] S (some (.int r)) SF := by
  refine x_enter (own := RX7) (by decide +kernel) rfl (Nat.le_of_ble_eq_true rfl) (fun p e s m below meth c A B ls hw hl0 => ?_)
  have hl : lv_has ls 7 [(0, .ref (q 0)), (1, .int x1), (2, .int x2)] := hl0
  exact jMod_unitsFor_b0_ok B x1 x2 S hf hw hl

set_option maxHeartbeats 4000000 in
theorem jMod_says_b0_ok (B : XB p s m args meth c A cX7_says 7 (some .int) RX7) {SF : St} {r : Int32}  (x1 : Int32) (x2 : Int32) (x3 : Int32) (x4 : Int32) (x5 : Int32) (S : St) {H : Heap} {locs : List Loc} {ls : Array Slot} (hf : jMod_says x1 x2 x3 x4 x5 S = some (r, SF)) (hw : Xw D 17 (cellM T q) q T ExM A s S H locs) (hl : lv_has ls 7 [(0, .ref (q 0)), (1, .int x1), (2, .int x2), (3, .int x3), (4, .int x4), (5, .int x5)]) : XG p l e ({ frames := 2, cells := 0, slots := 0, locals := 51 }) s m args below meth c D 17 (cellM T q) q T A SF (some (.int r)) H locs 0 ls [] := by
  unfold jMod_says at hf
  obtain ⟨hx, hb, hr, hml, hown, hts, hlk, hA⟩ := id B
  refine lv_aload_n hx hb dX7_says_0 rfl (lv_at hl 0 rfl) ?_
  refine lv_iload_n hx hb dX7_says_1 rfl (lv_at hl 1 rfl) ?_
  obtain ⟨v2, S1, hc, hf⟩ := x_bd_some hf
  refine x_callV B ExM_ok hw 0 (by decide) rfl rfl (As := [.int x1]) (rest := []) (st1 := [.int v2]) (jMod_isHouse_ok hc) u807 u809 u22 u45 u810 hdX7_isHouse rfl ⟨Nat.le_of_ble_eq_true rfl, Nat.le_of_ble_eq_true rfl⟩ ⟨rfl, rfl⟩ hl.1 (Nat.le_of_ble_eq_true rfl) dX7_says_2 (fun H locs hw => ?_) rfl rfl
  refine lv_if_eq (tgt := 28) hx hb dX7_says_5 (by decide) (fun hc => ?_) (fun hc => ?_)
  · have hf := x_pos hc hf
    refine lv_iconst (v := (-1)) hx hb dX7_says_28 (by decide) ?_
    exact x_iret B hw hf dX7_says_29
  · have hf := x_neg hc hf
    refine lv_iload_n hx hb dX7_says_8 rfl (lv_at hl 2 rfl) ?_
    refine lv_iload_n hx hb dX7_says_9 rfl (lv_at hl 3 rfl) ?_
    refine lv_iload hx hb dX7_says_10 (lv_at hl 4 rfl) ?_
    obtain ⟨v4, S3, hc, hf⟩ := x_bd_some hf
    refine x_callS B ExM_ok hw (As := [.int x2, .int x3, .int x4]) (rest := []) (st1 := [.int v4]) (jMod_areWords_ok hc) u859 u860 u45 u861 hdX7_areWords rfl ⟨Nat.le_of_ble_eq_true rfl, Nat.le_of_ble_eq_true rfl⟩ ⟨rfl, rfl⟩ hl.1 (Nat.le_of_ble_eq_true rfl) dX7_says_12 (fun H locs hw => ?_) rfl rfl
    refine lv_if_eq (tgt := 28) hx hb dX7_says_15 (by decide) (fun hc => ?_) (fun hc => ?_)
    · have hf := x_pos hc hf
      refine lv_iconst (v := (-1)) hx hb dX7_says_28 (by decide) ?_
      exact x_iret B hw hf dX7_says_29
    · have hf := x_neg hc hf
      refine lv_iload hx hb dX7_says_18 (lv_at hl 5 rfl) ?_
      refine lv_iconst (v := (-1)) hx hb dX7_says_20 (by decide) ?_
      refine lv_iconst (v := 2) hx hb dX7_says_21 (by decide) ?_
      obtain ⟨v6, S5, hc, hf⟩ := x_bd_some hf
      refine x_callS B ExM_ok hw (As := [.int x5, .int (-1), .int 2]) (rest := []) (st1 := [.int v6]) (jMod_in_ok hc) u768 u769 u45 u770 hdX7_in rfl ⟨Nat.le_of_ble_eq_true rfl, Nat.le_of_ble_eq_true rfl⟩ ⟨rfl, rfl⟩ hl.1 (Nat.le_of_ble_eq_true rfl) dX7_says_22 (fun H locs hw => ?_) rfl rfl
      refine lv_if_ne (tgt := 30) hx hb dX7_says_25 (by decide) (fun hc => ?_) (fun hc => ?_)
      · have hf := x_neg hc hf
        refine lv_aload_n hx hb dX7_says_30 rfl (lv_at hl 0 rfl) ?_
        refine lv_iload_n hx hb dX7_says_31 rfl (lv_at hl 2 rfl) ?_
        refine lv_iload_n hx hb dX7_says_32 rfl (lv_at hl 3 rfl) ?_
        refine lv_iload hx hb dX7_says_33 (lv_at hl 4 rfl) ?_
        obtain ⟨S7, hc, hf⟩ := x_bv_some hf
        refine x_callV B ExM_ok hw 0 (by decide) rfl rfl (As := [.int x2, .int x3, .int x4]) (rest := []) (st1 := []) (jMod_ask_ok hc) u862 u864 u27 u45 u865 hdX7_ask rfl ⟨Nat.le_of_ble_eq_true rfl, Nat.le_of_ble_eq_true rfl⟩ ⟨rfl, rfl⟩ hl.1 (Nat.le_of_ble_eq_true rfl) dX7_says_35 (fun H locs hw => ?_) rfl rfl
        refine lv_aload_n hx hb dX7_says_38 rfl (lv_at hl 0 rfl) ?_
        refine lv_iload_n hx hb dX7_says_39 rfl (lv_at hl 1 rfl) ?_
        refine lv_bipush (v := 7) hx hb dX7_says_40 (by decide) ?_
        obtain ⟨v9, S8, hc, hf⟩ := x_bd_some hf
        refine x_callV B ExM_ok hw 0 (by decide) rfl rfl (As := [.int x1, .int 7]) (rest := []) (st1 := [.int v9]) (jMod_unitsFor_ok hc) u866 u868 u28 u45 u869 hdX7_unitsFor rfl ⟨Nat.le_of_ble_eq_true rfl, Nat.le_of_ble_eq_true rfl⟩ ⟨rfl, rfl⟩ hl.1 (Nat.le_of_ble_eq_true rfl) dX7_says_42 (fun H locs hw => ?_) rfl rfl
        refine lv_istore (lv' := [(6, .int v9), (0, .ref (q 0)), (1, .int x1), (2, .int x2), (3, .int x3), (4, .int x4), (5, .int x5)]) hx hb dX7_says_45 hl (by decide) rfl (fun ls hl => ?_)
        refine lv_iload hx hb dX7_says_47 (lv_at hl 0 rfl) ?_
        refine lv_bipush (v := (-9)) hx hb dX7_says_49 (by decide) ?_
        refine lv_icmp_eq (tgt := 59) hx hb dX7_says_51 (by decide) (fun hc => ?_) (fun hc => ?_)
        · have hf := x_pos hc hf
          refine lv_iload hx hb dX7_says_59 (lv_at hl 0 rfl) ?_
          refine lv_goto (tgt := 86) hx hb dX7_says_61 (by decide) ?_
          exact x_iret B hw hf dX7_says_86
        · have hf := x_neg hc hf
          refine lv_iload hx hb dX7_says_54 (lv_at hl 6 rfl) ?_
          refine lv_if_ge (tgt := 64) hx hb dX7_says_56 (by decide) (fun hc => ?_) (fun hc => ?_)
          · have hf := x_pos hc hf
            refine lv_aload_n hx hb dX7_says_64 rfl (lv_at hl 1 rfl) ?_
            refine x_get B hw (Tb := TX7) inX7 0 (by decide) rfl rfl 20 (by decide) u710 (fun _ h => h) rfl dX7_says_65 ?_
            refine lv_iload hx hb dX7_says_68 (lv_at hl 6 rfl) ?_
            refine x_iald B hw 13 (by decide) rfl dX7_says_70 hf (fun v10 hf => ?_)
            refine lv_if_ge (tgt := 79) hx hb dX7_says_71 (by decide) (fun hc => ?_) (fun hc => ?_)
            · have hf := x_pos hc hf
              refine lv_aload_n hx hb dX7_says_79 rfl (lv_at hl 1 rfl) ?_
              refine x_get B hw (Tb := TX7) inX7 0 (by decide) rfl rfl 19 (by decide) u709 (fun _ h => h) rfl dX7_says_80 ?_
              refine lv_iload hx hb dX7_says_83 (lv_at hl 6 rfl) ?_
              refine x_iald B hw 12 (by decide) rfl dX7_says_85 hf (fun v11 hf => ?_)
              exact x_iret B hw hf dX7_says_86
            · have hf := x_neg hc hf
              refine lv_bipush (v := (-5)) hx hb dX7_says_74 (by decide) ?_
              refine lv_goto (tgt := 86) hx hb dX7_says_76 (by decide) ?_
              exact x_iret B hw hf dX7_says_86
          · have hf := x_neg hc hf
            refine lv_iload hx hb dX7_says_59 (lv_at hl 0 rfl) ?_
            refine lv_goto (tgt := 86) hx hb dX7_says_61 (by decide) ?_
            exact x_iret B hw hf dX7_says_86
      · have hf := x_pos hc hf
        refine lv_iconst (v := (-1)) hx hb dX7_says_28 (by decide) ?_
        exact x_iret B hw hf dX7_says_29

set_option maxHeartbeats 4000000 in
theorem jMod_says_ok {x1 : Int32} {x2 : Int32} {x3 : Int32} {x4 : Int32} {x5 : Int32} {S SF : St} {r : Int32} (hf : jMod_says x1 x2 x3 x4 x5 S = some (r, SF)) : XMet l D 17 (cellM T q) q T ExM yX7_says cX7_says 7 (some .int) ({ frames := 2, cells := 0, slots := 0, locals := 51 }) [.ref (q 0), .int x1, .int x2, .int x3, .int x4, .int x5] S (some (.int r)) SF := by
  refine x_enter (own := RX7) (by decide +kernel) rfl (Nat.le_of_ble_eq_true rfl) (fun p e s m below meth c A B ls hw hl0 => ?_)
  have hl : lv_has ls 7 [(0, .ref (q 0)), (1, .int x1), (2, .int x2), (3, .int x3), (4, .int x4), (5, .int x5)] := hl0
  exact jMod_says_b0_ok B x1 x2 x3 x4 x5 S hf hw hl

set_option maxHeartbeats 4000000 in
theorem jMod_bitsIn_b4_ok (B : XB p s m args meth c A cX7_bitsIn 3 (some .int) RX7) {SF : St} {r : Int32} (K4 : Int32 → Int32 → Int32 → St → Option (Int32 × St)) (hK4 : ∀ (x0 : Int32) (x1 : Int32) (x2 : Int32) (S : St) (H : Heap) (locs : List Loc) (ls : Array Slot), K4 x0 x1 x2 S = some (r, SF) → Xw D 17 (cellM T q) q T ExM A s S H locs → lv_has ls 3 [(0, .int x0), (1, .int x1), (2, .int x2)] → XG p l e ({ frames := 0, cells := 0, slots := 0, locals := 0 }) s m args below meth c D 17 (cellM T q) q T A SF (some (.int r)) H locs 4 ls [])  (x0 : Int32) (x1 : Int32) (x2 : Int32) (S : St) {H : Heap} {locs : List Loc} {ls : Array Slot} (hf : jMod_bitsIn_b4 K4 x0 x1 x2 S = some (r, SF)) (hw : Xw D 17 (cellM T q) q T ExM A s S H locs) (hl : lv_has ls 3 [(0, .int x0), (1, .int x1), (2, .int x2)]) : XG p l e ({ frames := 0, cells := 0, slots := 0, locals := 0 }) s m args below meth c D 17 (cellM T q) q T A SF (some (.int r)) H locs 4 ls [] := by
  unfold jMod_bitsIn_b4 at hf
  obtain ⟨hx, hb, hr, hml, hown, hts, hlk, hA⟩ := id B
  refine lv_iload_n hx hb dX7_bitsIn_4 rfl (lv_at hl 2 rfl) ?_
  refine lv_bipush (v := 8) hx hb dX7_bitsIn_5 (by decide) ?_
  refine lv_icmp_ge (tgt := 24) hx hb dX7_bitsIn_7 (by decide) (fun hc => ?_) (fun hc => ?_)
  · have hf := x_pos hc hf
    refine lv_iload_n hx hb dX7_bitsIn_24 rfl (lv_at hl 1 rfl) ?_
    exact x_iret B hw hf dX7_bitsIn_25
  · have hf := x_neg hc hf
    refine lv_iload_n hx hb dX7_bitsIn_10 rfl (lv_at hl 1 rfl) ?_
    refine lv_iload_n hx hb dX7_bitsIn_11 rfl (lv_at hl 0 rfl) ?_
    refine lv_iload_n hx hb dX7_bitsIn_12 rfl (lv_at hl 2 rfl) ?_
    refine lv_ishr hx hb dX7_bitsIn_13 ?_
    refine lv_iconst (v := 1) hx hb dX7_bitsIn_14 (by decide) ?_
    refine lv_iand hx hb dX7_bitsIn_15 ?_
    refine lv_iadd hx hb dX7_bitsIn_16 ?_
    refine x_leti hf (fun v1 hf => ?_)
    refine lv_istore_n (lv' := [(1, .int v1), (0, .int x0), (2, .int x2)]) hx hb dX7_bitsIn_17 rfl hl (by decide) rfl (fun ls hl => ?_)
    refine lv_iinc (v := x2 + 1) (lv' := [(2, .int (x2 + 1)), (1, .int v1), (0, .int x0)]) hx hb dX7_bitsIn_18 hl (k := 2) rfl xi_1 (by decide) rfl (fun ls hl => ?_)
    refine lv_goto (tgt := 4) hx hb dX7_bitsIn_21 (by decide) ?_
    exact hK4 x0 v1 (x2 + 1) S _ _ _ hf hw (lv_sub hl [2, 1, 0] rfl)

theorem jMod_bitsIn_h4_ok (B : XB p s m args meth c A cX7_bitsIn 3 (some .int) RX7) {SF : St} {r : Int32} : ∀ (n : Nat) (x0 : Int32) (x1 : Int32) (x2 : Int32) (S : St) (H : Heap) (locs : List Loc) (ls : Array Slot), jMod_bitsIn_h4 n x0 x1 x2 S = some (r, SF) → Xw D 17 (cellM T q) q T ExM A s S H locs → lv_has ls 3 [(0, .int x0), (1, .int x1), (2, .int x2)] → XG p l e ({ frames := 0, cells := 0, slots := 0, locals := 0 }) s m args below meth c D 17 (cellM T q) q T A SF (some (.int r)) H locs 4 ls [] := by
  intro n
  induction n with
  | zero =>
    intro x0 x1 x2 S H locs ls hf hw hl
    rw [jMod_bitsIn_h4] at hf
    cases hf
  | succ n ih =>
    intro x0 x1 x2 S H locs ls hf hw hl
    rw [jMod_bitsIn_h4] at hf
    exact jMod_bitsIn_b4_ok B (jMod_bitsIn_h4 n) ih x0 x1 x2 S hf hw hl

set_option maxHeartbeats 4000000 in
theorem jMod_bitsIn_b0_ok (B : XB p s m args meth c A cX7_bitsIn 3 (some .int) RX7) {SF : St} {r : Int32}  (x0 : Int32) (S : St) {H : Heap} {locs : List Loc} {ls : Array Slot} (hf : jMod_bitsIn x0 S = some (r, SF)) (hw : Xw D 17 (cellM T q) q T ExM A s S H locs) (hl : lv_has ls 3 [(0, .int x0)]) : XG p l e ({ frames := 0, cells := 0, slots := 0, locals := 0 }) s m args below meth c D 17 (cellM T q) q T A SF (some (.int r)) H locs 0 ls [] := by
  unfold jMod_bitsIn at hf
  obtain ⟨hx, hb, hr, hml, hown, hts, hlk, hA⟩ := id B
  refine lv_iconst (v := 0) hx hb dX7_bitsIn_0 (by decide) ?_
  refine lv_istore_n (lv' := [(1, .int 0), (0, .int x0)]) hx hb dX7_bitsIn_1 rfl hl (by decide) rfl (fun ls hl => ?_)
  refine lv_iconst (v := 0) hx hb dX7_bitsIn_2 (by decide) ?_
  refine lv_istore_n (lv' := [(2, .int 0), (1, .int 0), (0, .int x0)]) hx hb dX7_bitsIn_3 rfl hl (by decide) rfl (fun ls hl => ?_)
  exact jMod_bitsIn_h4_ok B FU x0 0 0 S _ _ _ hf hw (lv_sub hl [2, 1, 0] rfl)

set_option maxHeartbeats 4000000 in
theorem jMod_bitsIn_ok {x0 : Int32} {S SF : St} {r : Int32} (hf : jMod_bitsIn x0 S = some (r, SF)) : XMet l D 17 (cellM T q) q T ExM yX7_bitsIn cX7_bitsIn 3 (some .int) ({ frames := 0, cells := 0, slots := 0, locals := 0 }) [.int x0] S (some (.int r)) SF := by
  refine x_enter (own := RX7) (by decide +kernel) rfl (Nat.le_of_ble_eq_true rfl) (fun p e s m below meth c A B ls hw hl0 => ?_)
  have hl : lv_has ls 3 [(0, .int x0)] := hl0
  exact jMod_bitsIn_b0_ok B x0 S hf hw hl

set_option maxHeartbeats 4000000 in
theorem jMod_nearest_b55_ok (B : XB p s m args meth c A cX7_nearest 8 (some .int) RX7) {SF : St} {r : Int32} (K55 : Int32 → Int32 → Int32 → Int32 → St → Option (Int32 × St)) (hK55 : ∀ (x1 : Int32) (x5 : Int32) (x6 : Int32) (x7 : Int32) (S : St) (H : Heap) (locs : List Loc) (ls : Array Slot), K55 x1 x5 x6 x7 S = some (r, SF) → Xw D 17 (cellM T q) q T ExM A s S H locs → lv_has ls 8 [(0, .ref (q 0)), (1, .int x1), (5, .int x5), (6, .int x6), (7, .int x7)] → XG p l e ({ frames := 2, cells := 0, slots := 0, locals := 51 }) s m args below meth c D 17 (cellM T q) q T A SF (some (.int r)) H locs 55 ls [])  (x1 : Int32) (x5 : Int32) (x6 : Int32) (x7 : Int32) (S : St) {H : Heap} {locs : List Loc} {ls : Array Slot} (hf : jMod_nearest_b55 K55 x1 x5 x6 x7 S = some (r, SF)) (hw : Xw D 17 (cellM T q) q T ExM A s S H locs) (hl : lv_has ls 8 [(0, .ref (q 0)), (1, .int x1), (5, .int x5), (6, .int x6), (7, .int x7)]) : XG p l e ({ frames := 2, cells := 0, slots := 0, locals := 51 }) s m args below meth c D 17 (cellM T q) q T A SF (some (.int r)) H locs 55 ls [] := by
  unfold jMod_nearest_b55 at hf
  obtain ⟨hx, hb, hr, hml, hown, hts, hlk, hA⟩ := id B
  refine lv_iload hx hb dX7_nearest_55 (lv_at hl 4 rfl) ?_
  refine lv_iload hx hb dX7_nearest_57 (lv_at hl 2 rfl) ?_
  refine lv_icmp_gt (tgt := 102) hx hb dX7_nearest_59 (by decide) (fun hc => ?_) (fun hc => ?_)
  · have hf := x_pos hc hf
    refine lv_iload hx hb dX7_nearest_102 (lv_at hl 3 rfl) ?_
    exact x_iret B hw hf dX7_nearest_104
  · have hf := x_neg hc hf
    refine lv_iload hx hb dX7_nearest_62 (lv_at hl 4 rfl) ?_
    obtain ⟨v7, S6, hc, hf⟩ := x_bd_some hf
    refine x_callS B ExM_ok hw (As := [.int x7]) (rest := []) (st1 := [.int v7]) (jMod_bitsIn_ok hc) u882 u883 u45 u884 hdX7_bitsIn rfl ⟨Nat.le_of_ble_eq_true rfl, Nat.le_of_ble_eq_true rfl⟩ ⟨rfl, rfl⟩ hl.1 (Nat.le_of_ble_eq_true rfl) dX7_nearest_64 (fun H locs hw => ?_) rfl rfl
    refine lv_iload hx hb dX7_nearest_67 (lv_at hl 3 rfl) ?_
    obtain ⟨v9, S8, hc, hf⟩ := x_bd_some hf
    refine x_callS B ExM_ok hw (As := [.int x6]) (rest := [.int v7]) (st1 := [.int v9, .int v7]) (jMod_bitsIn_ok hc) u882 u883 u45 u884 hdX7_bitsIn rfl ⟨Nat.le_of_ble_eq_true rfl, Nat.le_of_ble_eq_true rfl⟩ ⟨rfl, rfl⟩ hl.1 (Nat.le_of_ble_eq_true rfl) dX7_nearest_69 (fun H locs hw => ?_) rfl rfl
    refine lv_icmp_le (tgt := 92) hx hb dX7_nearest_72 (by decide) (fun hc => ?_) (fun hc => ?_)
    · have hf := x_pos hc hf
      refine lv_iload hx hb dX7_nearest_92 (lv_at hl 3 rfl) ?_
      refine lv_istore (lv' := [(6, .int x6), (0, .ref (q 0)), (1, .int x1), (5, .int x5), (7, .int x7)]) hx hb dX7_nearest_94 hl (by decide) rfl (fun ls hl => ?_)
      refine lv_iinc (v := x7 + 1) (lv' := [(7, .int (x7 + 1)), (6, .int x6), (0, .ref (q 0)), (1, .int x1), (5, .int x5)]) hx hb dX7_nearest_96 hl (k := 4) rfl xi_1 (by decide) rfl (fun ls hl => ?_)
      refine lv_goto (tgt := 55) hx hb dX7_nearest_99 (by decide) ?_
      exact hK55 x1 x5 x6 (x7 + 1) S8 _ _ _ hf hw (lv_sub hl [2, 3, 4, 1, 0] rfl)
    · have hf := x_neg hc hf
      refine lv_aload_n hx hb dX7_nearest_75 rfl (lv_at hl 0 rfl) ?_
      refine lv_iload_n hx hb dX7_nearest_76 rfl (lv_at hl 1 rfl) ?_
      refine lv_iload hx hb dX7_nearest_77 (lv_at hl 4 rfl) ?_
      obtain ⟨v11, S10, hc, hf⟩ := x_bd_some hf
      refine x_callV B ExM_ok hw 0 (by decide) rfl rfl (As := [.int x1, .int x7]) (rest := []) (st1 := [.int v11]) (jMod_unitsFor_ok hc) u866 u868 u28 u45 u869 hdX7_unitsFor rfl ⟨Nat.le_of_ble_eq_true rfl, Nat.le_of_ble_eq_true rfl⟩ ⟨rfl, rfl⟩ hl.1 (Nat.le_of_ble_eq_true rfl) dX7_nearest_79 (fun H locs hw => ?_) rfl rfl
      refine lv_bipush (v := (-9)) hx hb dX7_nearest_82 (by decide) ?_
      refine lv_icmp_eq (tgt := 92) hx hb dX7_nearest_84 (by decide) (fun hc => ?_) (fun hc => ?_)
      · have hf := x_pos hc hf
        refine lv_iload hx hb dX7_nearest_92 (lv_at hl 3 rfl) ?_
        refine lv_istore (lv' := [(6, .int x6), (0, .ref (q 0)), (1, .int x1), (5, .int x5), (7, .int x7)]) hx hb dX7_nearest_94 hl (by decide) rfl (fun ls hl => ?_)
        refine lv_iinc (v := x7 + 1) (lv' := [(7, .int (x7 + 1)), (6, .int x6), (0, .ref (q 0)), (1, .int x1), (5, .int x5)]) hx hb dX7_nearest_96 hl (k := 4) rfl xi_1 (by decide) rfl (fun ls hl => ?_)
        refine lv_goto (tgt := 55) hx hb dX7_nearest_99 (by decide) ?_
        exact hK55 x1 x5 x6 (x7 + 1) S10 _ _ _ hf hw (lv_sub hl [2, 3, 4, 1, 0] rfl)
      · have hf := x_neg hc hf
        refine lv_iload hx hb dX7_nearest_87 (lv_at hl 4 rfl) ?_
        refine lv_goto (tgt := 94) hx hb dX7_nearest_89 (by decide) ?_
        refine lv_istore (lv' := [(6, .int x7), (0, .ref (q 0)), (1, .int x1), (5, .int x5), (7, .int x7)]) hx hb dX7_nearest_94 hl (by decide) rfl (fun ls hl => ?_)
        refine lv_iinc (v := x7 + 1) (lv' := [(7, .int (x7 + 1)), (6, .int x7), (0, .ref (q 0)), (1, .int x1), (5, .int x5)]) hx hb dX7_nearest_96 hl (k := 4) rfl xi_1 (by decide) rfl (fun ls hl => ?_)
        refine lv_goto (tgt := 55) hx hb dX7_nearest_99 (by decide) ?_
        exact hK55 x1 x5 x7 (x7 + 1) S10 _ _ _ hf hw (lv_sub hl [2, 3, 4, 1, 0] rfl)

theorem jMod_nearest_h55_ok (B : XB p s m args meth c A cX7_nearest 8 (some .int) RX7) {SF : St} {r : Int32} : ∀ (n : Nat) (x1 : Int32) (x5 : Int32) (x6 : Int32) (x7 : Int32) (S : St) (H : Heap) (locs : List Loc) (ls : Array Slot), jMod_nearest_h55 n x1 x5 x6 x7 S = some (r, SF) → Xw D 17 (cellM T q) q T ExM A s S H locs → lv_has ls 8 [(0, .ref (q 0)), (1, .int x1), (5, .int x5), (6, .int x6), (7, .int x7)] → XG p l e ({ frames := 2, cells := 0, slots := 0, locals := 51 }) s m args below meth c D 17 (cellM T q) q T A SF (some (.int r)) H locs 55 ls [] := by
  intro n
  induction n with
  | zero =>
    intro x1 x5 x6 x7 S H locs ls hf hw hl
    rw [jMod_nearest_h55] at hf
    cases hf
  | succ n ih =>
    intro x1 x5 x6 x7 S H locs ls hf hw hl
    rw [jMod_nearest_h55] at hf
    exact jMod_nearest_b55_ok B (jMod_nearest_h55 n) ih x1 x5 x6 x7 S hf hw hl

set_option maxHeartbeats 4000000 in
theorem jMod_nearest_b0_ok (B : XB p s m args meth c A cX7_nearest 8 (some .int) RX7) {SF : St} {r : Int32}  (x1 : Int32) (x2 : Int32) (x3 : Int32) (x4 : Int32) (S : St) {H : Heap} {locs : List Loc} {ls : Array Slot} (hf : jMod_nearest x1 x2 x3 x4 S = some (r, SF)) (hw : Xw D 17 (cellM T q) q T ExM A s S H locs) (hl : lv_has ls 8 [(0, .ref (q 0)), (1, .int x1), (2, .int x2), (3, .int x3), (4, .int x4)]) : XG p l e ({ frames := 2, cells := 0, slots := 0, locals := 51 }) s m args below meth c D 17 (cellM T q) q T A SF (some (.int r)) H locs 0 ls [] := by
  unfold jMod_nearest at hf
  obtain ⟨hx, hb, hr, hml, hown, hts, hlk, hA⟩ := id B
  refine lv_aload_n hx hb dX7_nearest_0 rfl (lv_at hl 0 rfl) ?_
  refine lv_iload_n hx hb dX7_nearest_1 rfl (lv_at hl 1 rfl) ?_
  obtain ⟨v2, S1, hc, hf⟩ := x_bd_some hf
  refine x_callV B ExM_ok hw 0 (by decide) rfl rfl (As := [.int x1]) (rest := []) (st1 := [.int v2]) (jMod_isHouse_ok hc) u807 u809 u22 u45 u810 hdX7_isHouse rfl ⟨Nat.le_of_ble_eq_true rfl, Nat.le_of_ble_eq_true rfl⟩ ⟨rfl, rfl⟩ hl.1 (Nat.le_of_ble_eq_true rfl) dX7_nearest_2 (fun H locs hw => ?_) rfl rfl
  refine lv_if_eq (tgt := 18) hx hb dX7_nearest_5 (by decide) (fun hc => ?_) (fun hc => ?_)
  · have hf := x_pos hc hf
    refine lv_iconst (v := (-1)) hx hb dX7_nearest_18 (by decide) ?_
    exact x_iret B hw hf dX7_nearest_19
  · have hf := x_neg hc hf
    refine lv_iload_n hx hb dX7_nearest_8 rfl (lv_at hl 2 rfl) ?_
    refine lv_iload_n hx hb dX7_nearest_9 rfl (lv_at hl 3 rfl) ?_
    refine lv_iload hx hb dX7_nearest_10 (lv_at hl 4 rfl) ?_
    obtain ⟨v4, S3, hc, hf⟩ := x_bd_some hf
    refine x_callS B ExM_ok hw (As := [.int x2, .int x3, .int x4]) (rest := []) (st1 := [.int v4]) (jMod_areWords_ok hc) u859 u860 u45 u861 hdX7_areWords rfl ⟨Nat.le_of_ble_eq_true rfl, Nat.le_of_ble_eq_true rfl⟩ ⟨rfl, rfl⟩ hl.1 (Nat.le_of_ble_eq_true rfl) dX7_nearest_12 (fun H locs hw => ?_) rfl rfl
    refine lv_if_ne (tgt := 20) hx hb dX7_nearest_15 (by decide) (fun hc => ?_) (fun hc => ?_)
    · have hf := x_neg hc hf
      refine lv_aload_n hx hb dX7_nearest_20 rfl (lv_at hl 0 rfl) ?_
      refine lv_iload_n hx hb dX7_nearest_21 rfl (lv_at hl 2 rfl) ?_
      refine lv_iload_n hx hb dX7_nearest_22 rfl (lv_at hl 3 rfl) ?_
      refine lv_iload hx hb dX7_nearest_23 (lv_at hl 4 rfl) ?_
      obtain ⟨S5, hc, hf⟩ := x_bv_some hf
      refine x_callV B ExM_ok hw 0 (by decide) rfl rfl (As := [.int x2, .int x3, .int x4]) (rest := []) (st1 := []) (jMod_ask_ok hc) u862 u864 u27 u45 u865 hdX7_ask rfl ⟨Nat.le_of_ble_eq_true rfl, Nat.le_of_ble_eq_true rfl⟩ ⟨rfl, rfl⟩ hl.1 (Nat.le_of_ble_eq_true rfl) dX7_nearest_25 (fun H locs hw => ?_) rfl rfl
      refine lv_iload hx hb dX7_nearest_28 (lv_at hl 4 rfl) ?_
      refine lv_if_lt (tgt := 38) hx hb dX7_nearest_30 (by decide) (fun hc => ?_) (fun hc => ?_)
      · have hf := x_pos hc hf
        refine lv_iload_n hx hb dX7_nearest_38 rfl (lv_at hl 3 rfl) ?_
        refine lv_if_lt (tgt := 46) hx hb dX7_nearest_39 (by decide) (fun hc => ?_) (fun hc => ?_)
        · have hf := x_pos hc hf
          refine lv_iconst (v := 1) hx hb dX7_nearest_46 (by decide) ?_
          refine lv_istore (lv' := [(5, .int 1), (0, .ref (q 0)), (1, .int x1), (2, .int x2), (3, .int x3), (4, .int x4)]) hx hb dX7_nearest_47 hl (by decide) rfl (fun ls hl => ?_)
          refine lv_iconst (v := 0) hx hb dX7_nearest_49 (by decide) ?_
          refine lv_istore (lv' := [(6, .int 0), (5, .int 1), (0, .ref (q 0)), (1, .int x1), (2, .int x2), (3, .int x3), (4, .int x4)]) hx hb dX7_nearest_50 hl (by decide) rfl (fun ls hl => ?_)
          refine lv_iconst (v := 1) hx hb dX7_nearest_52 (by decide) ?_
          refine lv_istore (lv' := [(7, .int 1), (6, .int 0), (5, .int 1), (0, .ref (q 0)), (1, .int x1), (2, .int x2), (3, .int x3), (4, .int x4)]) hx hb dX7_nearest_53 hl (by decide) rfl (fun ls hl => ?_)
          exact jMod_nearest_h55_ok B FU x1 1 0 1 S5 _ _ _ hf hw (lv_sub hl [3, 4, 2, 1, 0] rfl)
        · have hf := x_neg hc hf
          refine lv_iconst (v := 3) hx hb dX7_nearest_42 (by decide) ?_
          refine lv_goto (tgt := 47) hx hb dX7_nearest_43 (by decide) ?_
          refine lv_istore (lv' := [(5, .int 3), (0, .ref (q 0)), (1, .int x1), (2, .int x2), (3, .int x3), (4, .int x4)]) hx hb dX7_nearest_47 hl (by decide) rfl (fun ls hl => ?_)
          refine lv_iconst (v := 0) hx hb dX7_nearest_49 (by decide) ?_
          refine lv_istore (lv' := [(6, .int 0), (5, .int 3), (0, .ref (q 0)), (1, .int x1), (2, .int x2), (3, .int x3), (4, .int x4)]) hx hb dX7_nearest_50 hl (by decide) rfl (fun ls hl => ?_)
          refine lv_iconst (v := 1) hx hb dX7_nearest_52 (by decide) ?_
          refine lv_istore (lv' := [(7, .int 1), (6, .int 0), (5, .int 3), (0, .ref (q 0)), (1, .int x1), (2, .int x2), (3, .int x3), (4, .int x4)]) hx hb dX7_nearest_53 hl (by decide) rfl (fun ls hl => ?_)
          exact jMod_nearest_h55_ok B FU x1 3 0 1 S5 _ _ _ hf hw (lv_sub hl [3, 4, 2, 1, 0] rfl)
      · have hf := x_neg hc hf
        refine lv_bipush (v := 7) hx hb dX7_nearest_33 (by decide) ?_
        refine lv_goto (tgt := 47) hx hb dX7_nearest_35 (by decide) ?_
        refine lv_istore (lv' := [(5, .int 7), (0, .ref (q 0)), (1, .int x1), (2, .int x2), (3, .int x3), (4, .int x4)]) hx hb dX7_nearest_47 hl (by decide) rfl (fun ls hl => ?_)
        refine lv_iconst (v := 0) hx hb dX7_nearest_49 (by decide) ?_
        refine lv_istore (lv' := [(6, .int 0), (5, .int 7), (0, .ref (q 0)), (1, .int x1), (2, .int x2), (3, .int x3), (4, .int x4)]) hx hb dX7_nearest_50 hl (by decide) rfl (fun ls hl => ?_)
        refine lv_iconst (v := 1) hx hb dX7_nearest_52 (by decide) ?_
        refine lv_istore (lv' := [(7, .int 1), (6, .int 0), (5, .int 7), (0, .ref (q 0)), (1, .int x1), (2, .int x2), (3, .int x3), (4, .int x4)]) hx hb dX7_nearest_53 hl (by decide) rfl (fun ls hl => ?_)
        exact jMod_nearest_h55_ok B FU x1 7 0 1 S5 _ _ _ hf hw (lv_sub hl [3, 4, 2, 1, 0] rfl)
    · have hf := x_pos hc hf
      refine lv_iconst (v := (-1)) hx hb dX7_nearest_18 (by decide) ?_
      exact x_iret B hw hf dX7_nearest_19

set_option maxHeartbeats 4000000 in
theorem jMod_nearest_ok {x1 : Int32} {x2 : Int32} {x3 : Int32} {x4 : Int32} {S SF : St} {r : Int32} (hf : jMod_nearest x1 x2 x3 x4 S = some (r, SF)) : XMet l D 17 (cellM T q) q T ExM yX7_nearest cX7_nearest 8 (some .int) ({ frames := 2, cells := 0, slots := 0, locals := 51 }) [.ref (q 0), .int x1, .int x2, .int x3, .int x4] S (some (.int r)) SF := by
  refine x_enter (own := RX7) (by decide +kernel) rfl (Nat.le_of_ble_eq_true rfl) (fun p e s m below meth c A B ls hw hl0 => ?_)
  have hl : lv_has ls 8 [(0, .ref (q 0)), (1, .int x1), (2, .int x2), (3, .int x3), (4, .int x4)] := hl0
  exact jMod_nearest_b0_ok B x1 x2 x3 x4 S hf hw hl

set_option maxHeartbeats 4000000 in
theorem jMod_isSmoke_b0_ok (B : XB p s m args meth c A cX7_isSmoke 1 (some .boolean) RX7) {SF : St} {r : Int32}  (x0 : Int32) (S : St) {H : Heap} {locs : List Loc} {ls : Array Slot} (hf : jMod_isSmoke x0 S = some (r, SF)) (hw : Xw D 17 (cellM T q) q T ExM A s S H locs) (hl : lv_has ls 1 [(0, .int x0)]) : XG p l e ({ frames := 1, cells := 0, slots := 0, locals := 22 }) s m args below meth c D 17 (cellM T q) q T A SF (some (.int r)) H locs 0 ls [] := by
  unfold jMod_isSmoke at hf
  obtain ⟨hx, hb, hr, hml, hown, hts, hlk, hA⟩ := id B
  refine lv_iload_n hx hb dX7_isSmoke_0 rfl (lv_at hl 0 rfl) ?_
  refine lv_iconst (v := 0) hx hb dX7_isSmoke_1 (by decide) ?_
  refine lv_bipush (v := 7) hx hb dX7_isSmoke_2 (by decide) ?_
  obtain ⟨v2, S1, hc, hf⟩ := x_bd_some hf
  refine x_callS B ExM_ok hw (As := [.int x0, .int 0, .int 7]) (rest := []) (st1 := [.int v2]) (jMod_in_ok hc) u768 u769 u45 u770 hdX7_in rfl ⟨Nat.le_of_ble_eq_true rfl, Nat.le_of_ble_eq_true rfl⟩ ⟨rfl, rfl⟩ hl.1 (Nat.le_of_ble_eq_true rfl) dX7_isSmoke_4 (fun H locs hw => ?_) rfl rfl
  exact x_zret B hw hf dX7_isSmoke_7

set_option maxHeartbeats 4000000 in
theorem jMod_isSmoke_ok {x0 : Int32} {S SF : St} {r : Int32} (hf : jMod_isSmoke x0 S = some (r, SF)) : XMet l D 17 (cellM T q) q T ExM yX7_isSmoke cX7_isSmoke 1 (some .boolean) ({ frames := 1, cells := 0, slots := 0, locals := 22 }) [.int x0] S (some (.int r)) SF := by
  refine x_enter (own := RX7) (by decide +kernel) rfl (Nat.le_of_ble_eq_true rfl) (fun p e s m below meth c A B ls hw hl0 => ?_)
  have hl : lv_has ls 1 [(0, .int x0)] := hl0
  exact jMod_isSmoke_b0_ok B x0 S hf hw hl

set_option maxHeartbeats 4000000 in
theorem jMod_readAs_b5_ok (B : XB p s m args meth c A cX7_readAs 5 (some .int) RX7) {SF : St} {r : Int32} (K5 : Int32 → Int32 → Int32 → Int32 → St → Option (Int32 × St)) (hK5 : ∀ (x1 : Int32) (x2 : Int32) (x3 : Int32) (x4 : Int32) (S : St) (H : Heap) (locs : List Loc) (ls : Array Slot), K5 x1 x2 x3 x4 S = some (r, SF) → Xw D 17 (cellM T q) q T ExM A s S H locs → lv_has ls 5 [(0, .ref (q 0)), (1, .int x1), (2, .int x2), (3, .int x3), (4, .int x4)] → XG p l e ({ frames := 0, cells := 0, slots := 0, locals := 0 }) s m args below meth c D 17 (cellM T q) q T A SF (some (.int r)) H locs 5 ls [])  (x1 : Int32) (x2 : Int32) (x3 : Int32) (x4 : Int32) (S : St) {H : Heap} {locs : List Loc} {ls : Array Slot} (hf : jMod_readAs_b5 K5 x1 x2 x3 x4 S = some (r, SF)) (hw : Xw D 17 (cellM T q) q T ExM A s S H locs) (hl : lv_has ls 5 [(0, .ref (q 0)), (1, .int x1), (2, .int x2), (3, .int x3), (4, .int x4)]) : XG p l e ({ frames := 0, cells := 0, slots := 0, locals := 0 }) s m args below meth c D 17 (cellM T q) q T A SF (some (.int r)) H locs 5 ls [] := by
  unfold jMod_readAs_b5 at hf
  obtain ⟨hx, hb, hr, hml, hown, hts, hlk, hA⟩ := id B
  refine lv_iload hx hb dX7_readAs_5 (lv_at hl 4 rfl) ?_
  refine lv_iconst (v := 3) hx hb dX7_readAs_7 (by decide) ?_
  refine lv_icmp_ge (tgt := 52) hx hb dX7_readAs_8 (by decide) (fun hc => ?_) (fun hc => ?_)
  · have hf := x_pos hc hf
    refine lv_iload_n hx hb dX7_readAs_52 rfl (lv_at hl 3 rfl) ?_
    exact x_iret B hw hf dX7_readAs_53
  · have hf := x_neg hc hf
    refine lv_iload_n hx hb dX7_readAs_11 rfl (lv_at hl 3 rfl) ?_
    refine lv_iload_n hx hb dX7_readAs_12 rfl (lv_at hl 1 rfl) ?_
    refine lv_iload_n hx hb dX7_readAs_13 rfl (lv_at hl 2 rfl) ?_
    refine lv_ixor hx hb dX7_readAs_14 ?_
    refine lv_iload hx hb dX7_readAs_15 (lv_at hl 4 rfl) ?_
    refine lv_ishr hx hb dX7_readAs_17 ?_
    refine lv_iconst (v := 1) hx hb dX7_readAs_18 (by decide) ?_
    refine lv_iand hx hb dX7_readAs_19 ?_
    refine lv_iconst (v := 1) hx hb dX7_readAs_20 (by decide) ?_
    refine lv_icmp_ne (tgt := 34) hx hb dX7_readAs_21 (by decide) (fun hc => ?_) (fun hc => ?_)
    · have hf := x_neg hc hf
      refine lv_bipush (v := 10) hx hb dX7_readAs_34 (by decide) ?_
      refine lv_aload_n hx hb dX7_readAs_36 rfl (lv_at hl 0 rfl) ?_
      refine x_get B hw (Tb := TX7) inX7 0 (by decide) rfl rfl 16 (by decide) u706 (fun _ h => h) rfl dX7_readAs_37 ?_
      refine lv_bipush (v := 30) hx hb dX7_readAs_40 (by decide) ?_
      refine x_iald B hw 9 (by decide) rfl dX7_readAs_42 hf (fun v1 hf => ?_)
      refine lv_isub hx hb dX7_readAs_43 ?_
      refine lv_imul hx hb dX7_readAs_44 ?_
      refine x_leti hf (fun v2 hf => ?_)
      refine lv_istore_n (lv' := [(3, .int v2), (0, .ref (q 0)), (1, .int x1), (2, .int x2), (4, .int x4)]) hx hb dX7_readAs_45 rfl hl (by decide) rfl (fun ls hl => ?_)
      refine lv_iinc (v := x4 + 1) (lv' := [(4, .int (x4 + 1)), (3, .int v2), (0, .ref (q 0)), (1, .int x1), (2, .int x2)]) hx hb dX7_readAs_46 hl (k := 4) rfl xi_1 (by decide) rfl (fun ls hl => ?_)
      refine lv_goto (tgt := 5) hx hb dX7_readAs_49 (by decide) ?_
      exact hK5 x1 x2 v2 (x4 + 1) S _ _ _ hf hw (lv_sub hl [2, 3, 4, 1, 0] rfl)
    · have hf := x_pos hc hf
      refine lv_aload_n hx hb dX7_readAs_24 rfl (lv_at hl 0 rfl) ?_
      refine x_get B hw (Tb := TX7) inX7 0 (by decide) rfl rfl 16 (by decide) u706 (fun _ h => h) rfl dX7_readAs_25 ?_
      refine lv_bipush (v := 30) hx hb dX7_readAs_28 (by decide) ?_
      refine x_iald B hw 9 (by decide) rfl dX7_readAs_30 hf (fun v3 hf => ?_)
      refine lv_goto (tgt := 44) hx hb dX7_readAs_31 (by decide) ?_
      refine lv_imul hx hb dX7_readAs_44 ?_
      refine x_leti hf (fun v4 hf => ?_)
      refine lv_istore_n (lv' := [(3, .int v4), (0, .ref (q 0)), (1, .int x1), (2, .int x2), (4, .int x4)]) hx hb dX7_readAs_45 rfl hl (by decide) rfl (fun ls hl => ?_)
      refine lv_iinc (v := x4 + 1) (lv' := [(4, .int (x4 + 1)), (3, .int v4), (0, .ref (q 0)), (1, .int x1), (2, .int x2)]) hx hb dX7_readAs_46 hl (k := 4) rfl xi_1 (by decide) rfl (fun ls hl => ?_)
      refine lv_goto (tgt := 5) hx hb dX7_readAs_49 (by decide) ?_
      exact hK5 x1 x2 v4 (x4 + 1) S _ _ _ hf hw (lv_sub hl [2, 3, 4, 1, 0] rfl)

theorem jMod_readAs_h5_ok (B : XB p s m args meth c A cX7_readAs 5 (some .int) RX7) {SF : St} {r : Int32} : ∀ (n : Nat) (x1 : Int32) (x2 : Int32) (x3 : Int32) (x4 : Int32) (S : St) (H : Heap) (locs : List Loc) (ls : Array Slot), jMod_readAs_h5 n x1 x2 x3 x4 S = some (r, SF) → Xw D 17 (cellM T q) q T ExM A s S H locs → lv_has ls 5 [(0, .ref (q 0)), (1, .int x1), (2, .int x2), (3, .int x3), (4, .int x4)] → XG p l e ({ frames := 0, cells := 0, slots := 0, locals := 0 }) s m args below meth c D 17 (cellM T q) q T A SF (some (.int r)) H locs 5 ls [] := by
  intro n
  induction n with
  | zero =>
    intro x1 x2 x3 x4 S H locs ls hf hw hl
    rw [jMod_readAs_h5] at hf
    cases hf
  | succ n ih =>
    intro x1 x2 x3 x4 S H locs ls hf hw hl
    rw [jMod_readAs_h5] at hf
    exact jMod_readAs_b5_ok B (jMod_readAs_h5 n) ih x1 x2 x3 x4 S hf hw hl

set_option maxHeartbeats 4000000 in
theorem jMod_readAs_b0_ok (B : XB p s m args meth c A cX7_readAs 5 (some .int) RX7) {SF : St} {r : Int32}  (x1 : Int32) (x2 : Int32) (S : St) {H : Heap} {locs : List Loc} {ls : Array Slot} (hf : jMod_readAs x1 x2 S = some (r, SF)) (hw : Xw D 17 (cellM T q) q T ExM A s S H locs) (hl : lv_has ls 5 [(0, .ref (q 0)), (1, .int x1), (2, .int x2)]) : XG p l e ({ frames := 0, cells := 0, slots := 0, locals := 0 }) s m args below meth c D 17 (cellM T q) q T A SF (some (.int r)) H locs 0 ls [] := by
  unfold jMod_readAs at hf
  obtain ⟨hx, hb, hr, hml, hown, hts, hlk, hA⟩ := id B
  refine lv_iconst (v := 1) hx hb dX7_readAs_0 (by decide) ?_
  refine lv_istore_n (lv' := [(3, .int 1), (0, .ref (q 0)), (1, .int x1), (2, .int x2)]) hx hb dX7_readAs_1 rfl hl (by decide) rfl (fun ls hl => ?_)
  refine lv_iconst (v := 0) hx hb dX7_readAs_2 (by decide) ?_
  refine lv_istore (lv' := [(4, .int 0), (3, .int 1), (0, .ref (q 0)), (1, .int x1), (2, .int x2)]) hx hb dX7_readAs_3 hl (by decide) rfl (fun ls hl => ?_)
  exact jMod_readAs_h5_ok B FU x1 x2 1 0 S _ _ _ hf hw (lv_sub hl [2, 3, 4, 1, 0] rfl)

set_option maxHeartbeats 4000000 in
theorem jMod_readAs_ok {x1 : Int32} {x2 : Int32} {S SF : St} {r : Int32} (hf : jMod_readAs x1 x2 S = some (r, SF)) : XMet l D 17 (cellM T q) q T ExM yX7_readAs cX7_readAs 5 (some .int) ({ frames := 0, cells := 0, slots := 0, locals := 0 }) [.ref (q 0), .int x1, .int x2] S (some (.int r)) SF := by
  refine x_enter (own := RX7) (by decide +kernel) rfl (Nat.le_of_ble_eq_true rfl) (fun p e s m below meth c A B ls hw hl0 => ?_)
  have hl : lv_has ls 5 [(0, .ref (q 0)), (1, .int x1), (2, .int x2)] := hl0
  exact jMod_readAs_b0_ok B x1 x2 S hf hw hl

set_option maxHeartbeats 4000000 in
theorem jMod_reads_b0_ok (B : XB p s m args meth c A cX7_reads 3 (some .int) RX7) {SF : St} {r : Int32}  (x1 : Int32) (x2 : Int32) (S : St) {H : Heap} {locs : List Loc} {ls : Array Slot} (hf : jMod_reads x1 x2 S = some (r, SF)) (hw : Xw D 17 (cellM T q) q T ExM A s S H locs) (hl : lv_has ls 3 [(0, .ref (q 0)), (1, .int x1), (2, .int x2)]) : XG p l e ({ frames := 2, cells := 0, slots := 0, locals := 42 }) s m args below meth c D 17 (cellM T q) q T A SF (some (.int r)) H locs 0 ls [] := by
  unfold jMod_reads at hf
  obtain ⟨hx, hb, hr, hml, hown, hts, hlk, hA⟩ := id B
  refine lv_iload_n hx hb dX7_reads_0 rfl (lv_at hl 1 rfl) ?_
  obtain ⟨v2, S1, hc, hf⟩ := x_bd_some hf
  refine x_callS B ExM_ok hw (As := [.int x1]) (rest := []) (st1 := [.int v2]) (jMod_isSmoke_ok hc) u889 u890 u45 u891 hdX7_isSmoke rfl ⟨Nat.le_of_ble_eq_true rfl, Nat.le_of_ble_eq_true rfl⟩ ⟨rfl, rfl⟩ hl.1 (Nat.le_of_ble_eq_true rfl) dX7_reads_1 (fun H locs hw => ?_) rfl rfl
  refine lv_if_eq (tgt := 23) hx hb dX7_reads_4 (by decide) (fun hc => ?_) (fun hc => ?_)
  · have hf := x_pos hc hf
    refine lv_iconst (v := (-1)) hx hb dX7_reads_23 (by decide) ?_
    exact x_iret B hw hf dX7_reads_24
  · have hf := x_neg hc hf
    refine lv_iload_n hx hb dX7_reads_7 rfl (lv_at hl 2 rfl) ?_
    obtain ⟨v4, S3, hc, hf⟩ := x_bd_some hf
    refine x_callS B ExM_ok hw (As := [.int x2]) (rest := []) (st1 := [.int v4]) (jMod_isSmoke_ok hc) u889 u890 u45 u891 hdX7_isSmoke rfl ⟨Nat.le_of_ble_eq_true rfl, Nat.le_of_ble_eq_true rfl⟩ ⟨rfl, rfl⟩ hl.1 (Nat.le_of_ble_eq_true rfl) dX7_reads_8 (fun H locs hw => ?_) rfl rfl
    refine lv_if_eq (tgt := 23) hx hb dX7_reads_11 (by decide) (fun hc => ?_) (fun hc => ?_)
    · have hf := x_pos hc hf
      refine lv_iconst (v := (-1)) hx hb dX7_reads_23 (by decide) ?_
      exact x_iret B hw hf dX7_reads_24
    · have hf := x_neg hc hf
      refine lv_aload_n hx hb dX7_reads_14 rfl (lv_at hl 0 rfl) ?_
      refine lv_iload_n hx hb dX7_reads_15 rfl (lv_at hl 1 rfl) ?_
      refine lv_iload_n hx hb dX7_reads_16 rfl (lv_at hl 2 rfl) ?_
      obtain ⟨v6, S5, hc, hf⟩ := x_bd_some hf
      refine x_callV B ExM_ok hw 0 (by decide) rfl rfl (As := [.int x1, .int x2]) (rest := []) (st1 := [.int v6]) (jMod_readAs_ok hc) u892 u894 u31 u45 u895 hdX7_readAs rfl ⟨Nat.le_of_ble_eq_true rfl, Nat.le_of_ble_eq_true rfl⟩ ⟨rfl, rfl⟩ hl.1 (Nat.le_of_ble_eq_true rfl) dX7_reads_17 (fun H locs hw => ?_) rfl rfl
      refine lv_goto (tgt := 24) hx hb dX7_reads_20 (by decide) ?_
      exact x_iret B hw hf dX7_reads_24

set_option maxHeartbeats 4000000 in
theorem jMod_reads_ok {x1 : Int32} {x2 : Int32} {S SF : St} {r : Int32} (hf : jMod_reads x1 x2 S = some (r, SF)) : XMet l D 17 (cellM T q) q T ExM yX7_reads cX7_reads 3 (some .int) ({ frames := 2, cells := 0, slots := 0, locals := 42 }) [.ref (q 0), .int x1, .int x2] S (some (.int r)) SF := by
  refine x_enter (own := RX7) (by decide +kernel) rfl (Nat.le_of_ble_eq_true rfl) (fun p e s m below meth c A B ls hw hl0 => ?_)
  have hl : lv_has ls 3 [(0, .ref (q 0)), (1, .int x1), (2, .int x2)] := hl0
  exact jMod_reads_b0_ok B x1 x2 S hf hw hl

set_option maxHeartbeats 4000000 in
theorem jMod_meant_b2_ok (B : XB p s m args meth c A cX7_meant 3 (some .int) RX7) {SF : St} {r : Int32} (K2 : Int32 → Int32 → St → Option (Int32 × St)) (hK2 : ∀ (x1 : Int32) (x2 : Int32) (S : St) (H : Heap) (locs : List Loc) (ls : Array Slot), K2 x1 x2 S = some (r, SF) → Xw D 17 (cellM T q) q T ExM A s S H locs → lv_has ls 3 [(0, .ref (q 0)), (1, .int x1), (2, .int x2)] → XG p l e ({ frames := 0, cells := 0, slots := 0, locals := 0 }) s m args below meth c D 17 (cellM T q) q T A SF (some (.int r)) H locs 2 ls [])  (x1 : Int32) (x2 : Int32) (S : St) {H : Heap} {locs : List Loc} {ls : Array Slot} (hf : jMod_meant_b2 K2 x1 x2 S = some (r, SF)) (hw : Xw D 17 (cellM T q) q T ExM A s S H locs) (hl : lv_has ls 3 [(0, .ref (q 0)), (1, .int x1), (2, .int x2)]) : XG p l e ({ frames := 0, cells := 0, slots := 0, locals := 0 }) s m args below meth c D 17 (cellM T q) q T A SF (some (.int r)) H locs 2 ls [] := by
  unfold jMod_meant_b2 at hf
  obtain ⟨hx, hb, hr, hml, hown, hts, hlk, hA⟩ := id B
  refine lv_iload_n hx hb dX7_meant_2 rfl (lv_at hl 2 rfl) ?_
  refine lv_aload_n hx hb dX7_meant_3 rfl (lv_at hl 0 rfl) ?_
  refine x_get B hw (Tb := TX7) inX7 0 (by decide) rfl rfl 5 (by decide) u695 (fun _ h => h) rfl dX7_meant_4 ?_
  refine lv_iconst (v := 0) hx hb dX7_meant_7 (by decide) ?_
  refine x_iald B hw 4 (by decide) rfl dX7_meant_8 hf (fun v1 hf => ?_)
  refine lv_icmp_ge (tgt := 35) hx hb dX7_meant_9 (by decide) (fun hc => ?_) (fun hc => ?_)
  · have hf := x_pos hc hf
    refine lv_bipush (v := (-9)) hx hb dX7_meant_35 (by decide) ?_
    exact x_iret B hw hf dX7_meant_37
  · have hf := x_neg hc hf
    refine lv_aload_n hx hb dX7_meant_12 rfl (lv_at hl 0 rfl) ?_
    refine x_get B hw (Tb := TX7) inX7 0 (by decide) rfl rfl 7 (by decide) u697 (fun _ h => h) rfl dX7_meant_13 ?_
    refine lv_iload_n hx hb dX7_meant_16 rfl (lv_at hl 2 rfl) ?_
    refine x_iald B hw 6 (by decide) rfl dX7_meant_17 hf (fun v2 hf => ?_)
    refine lv_iload_n hx hb dX7_meant_18 rfl (lv_at hl 1 rfl) ?_
    refine lv_icmp_ne (tgt := 29) hx hb dX7_meant_19 (by decide) (fun hc => ?_) (fun hc => ?_)
    · have hf := x_neg hc hf
      refine lv_iinc (v := x2 + 1) (lv' := [(2, .int (x2 + 1)), (0, .ref (q 0)), (1, .int x1)]) hx hb dX7_meant_29 hl (k := 2) rfl xi_1 (by decide) rfl (fun ls hl => ?_)
      refine lv_goto (tgt := 2) hx hb dX7_meant_32 (by decide) ?_
      exact hK2 x1 (x2 + 1) S _ _ _ hf hw (lv_sub hl [1, 2, 0] rfl)
    · have hf := x_pos hc hf
      refine lv_aload_n hx hb dX7_meant_22 rfl (lv_at hl 0 rfl) ?_
      refine x_get B hw (Tb := TX7) inX7 0 (by decide) rfl rfl 8 (by decide) u698 (fun _ h => h) rfl dX7_meant_23 ?_
      refine lv_iload_n hx hb dX7_meant_26 rfl (lv_at hl 2 rfl) ?_
      refine x_iald B hw 7 (by decide) rfl dX7_meant_27 hf (fun v3 hf => ?_)
      exact x_iret B hw hf dX7_meant_28

theorem jMod_meant_h2_ok (B : XB p s m args meth c A cX7_meant 3 (some .int) RX7) {SF : St} {r : Int32} : ∀ (n : Nat) (x1 : Int32) (x2 : Int32) (S : St) (H : Heap) (locs : List Loc) (ls : Array Slot), jMod_meant_h2 n x1 x2 S = some (r, SF) → Xw D 17 (cellM T q) q T ExM A s S H locs → lv_has ls 3 [(0, .ref (q 0)), (1, .int x1), (2, .int x2)] → XG p l e ({ frames := 0, cells := 0, slots := 0, locals := 0 }) s m args below meth c D 17 (cellM T q) q T A SF (some (.int r)) H locs 2 ls [] := by
  intro n
  induction n with
  | zero =>
    intro x1 x2 S H locs ls hf hw hl
    rw [jMod_meant_h2] at hf
    cases hf
  | succ n ih =>
    intro x1 x2 S H locs ls hf hw hl
    rw [jMod_meant_h2] at hf
    exact jMod_meant_b2_ok B (jMod_meant_h2 n) ih x1 x2 S hf hw hl

set_option maxHeartbeats 4000000 in
theorem jMod_meant_b0_ok (B : XB p s m args meth c A cX7_meant 3 (some .int) RX7) {SF : St} {r : Int32}  (x1 : Int32) (S : St) {H : Heap} {locs : List Loc} {ls : Array Slot} (hf : jMod_meant x1 S = some (r, SF)) (hw : Xw D 17 (cellM T q) q T ExM A s S H locs) (hl : lv_has ls 3 [(0, .ref (q 0)), (1, .int x1)]) : XG p l e ({ frames := 0, cells := 0, slots := 0, locals := 0 }) s m args below meth c D 17 (cellM T q) q T A SF (some (.int r)) H locs 0 ls [] := by
  unfold jMod_meant at hf
  obtain ⟨hx, hb, hr, hml, hown, hts, hlk, hA⟩ := id B
  refine lv_iconst (v := 0) hx hb dX7_meant_0 (by decide) ?_
  refine lv_istore_n (lv' := [(2, .int 0), (0, .ref (q 0)), (1, .int x1)]) hx hb dX7_meant_1 rfl hl (by decide) rfl (fun ls hl => ?_)
  exact jMod_meant_h2_ok B FU x1 0 S _ _ _ hf hw (lv_sub hl [1, 2, 0] rfl)

set_option maxHeartbeats 4000000 in
theorem jMod_meant_ok {x1 : Int32} {S SF : St} {r : Int32} (hf : jMod_meant x1 S = some (r, SF)) : XMet l D 17 (cellM T q) q T ExM yX7_meant cX7_meant 3 (some .int) ({ frames := 0, cells := 0, slots := 0, locals := 0 }) [.ref (q 0), .int x1] S (some (.int r)) SF := by
  refine x_enter (own := RX7) (by decide +kernel) rfl (Nat.le_of_ble_eq_true rfl) (fun p e s m below meth c A B ls hw hl0 => ?_)
  have hl : lv_has ls 3 [(0, .ref (q 0)), (1, .int x1)] := hl0
  exact jMod_meant_b0_ok B x1 S hf hw hl

set_option maxHeartbeats 4000000 in
theorem jMod_means_b0_ok (B : XB p s m args meth c A cX7_means 2 (some .int) RX7) {SF : St} {r : Int32}  (x1 : Int32) (S : St) {H : Heap} {locs : List Loc} {ls : Array Slot} (hf : jMod_means x1 S = some (r, SF)) (hw : Xw D 17 (cellM T q) q T ExM A s S H locs) (hl : lv_has ls 2 [(0, .ref (q 0)), (1, .int x1)]) : XG p l e ({ frames := 2, cells := 0, slots := 0, locals := 42 }) s m args below meth c D 17 (cellM T q) q T A SF (some (.int r)) H locs 0 ls [] := by
  unfold jMod_means at hf
  obtain ⟨hx, hb, hr, hml, hown, hts, hlk, hA⟩ := id B
  refine lv_iload_n hx hb dX7_means_0 rfl (lv_at hl 1 rfl) ?_
  obtain ⟨v2, S1, hc, hf⟩ := x_bd_some hf
  refine x_callS B ExM_ok hw (As := [.int x1]) (rest := []) (st1 := [.int v2]) (jMod_isSmoke_ok hc) u889 u890 u45 u891 hdX7_isSmoke rfl ⟨Nat.le_of_ble_eq_true rfl, Nat.le_of_ble_eq_true rfl⟩ ⟨rfl, rfl⟩ hl.1 (Nat.le_of_ble_eq_true rfl) dX7_means_1 (fun H locs hw => ?_) rfl rfl
  refine lv_if_eq (tgt := 15) hx hb dX7_means_4 (by decide) (fun hc => ?_) (fun hc => ?_)
  · have hf := x_pos hc hf
    refine lv_iconst (v := (-1)) hx hb dX7_means_15 (by decide) ?_
    exact x_iret B hw hf dX7_means_16
  · have hf := x_neg hc hf
    refine lv_aload_n hx hb dX7_means_7 rfl (lv_at hl 0 rfl) ?_
    refine lv_iload_n hx hb dX7_means_8 rfl (lv_at hl 1 rfl) ?_
    obtain ⟨v4, S3, hc, hf⟩ := x_bd_some hf
    refine x_callV B ExM_ok hw 0 (by decide) rfl rfl (As := [.int x1]) (rest := []) (st1 := [.int v4]) (jMod_meant_ok hc) u900 u902 u32 u45 u903 hdX7_meant rfl ⟨Nat.le_of_ble_eq_true rfl, Nat.le_of_ble_eq_true rfl⟩ ⟨rfl, rfl⟩ hl.1 (Nat.le_of_ble_eq_true rfl) dX7_means_9 (fun H locs hw => ?_) rfl rfl
    refine lv_goto (tgt := 16) hx hb dX7_means_12 (by decide) ?_
    exact x_iret B hw hf dX7_means_16

set_option maxHeartbeats 4000000 in
theorem jMod_means_ok {x1 : Int32} {S SF : St} {r : Int32} (hf : jMod_means x1 S = some (r, SF)) : XMet l D 17 (cellM T q) q T ExM yX7_means cX7_means 2 (some .int) ({ frames := 2, cells := 0, slots := 0, locals := 42 }) [.ref (q 0), .int x1] S (some (.int r)) SF := by
  refine x_enter (own := RX7) (by decide +kernel) rfl (Nat.le_of_ble_eq_true rfl) (fun p e s m below meth c A B ls hw hl0 => ?_)
  have hl : lv_has ls 2 [(0, .ref (q 0)), (1, .int x1)] := hl0
  exact jMod_means_b0_ok B x1 S hf hw hl

set_option maxHeartbeats 4000000 in
theorem jMod_leastOf_b2_ok (B : XB p s m args meth c A cX7_leastOf 3 (some .int) RX7) {SF : St} {r : Int32} (K2 : Int32 → Int32 → St → Option (Int32 × St)) (hK2 : ∀ (x1 : Int32) (x2 : Int32) (S : St) (H : Heap) (locs : List Loc) (ls : Array Slot), K2 x1 x2 S = some (r, SF) → Xw D 17 (cellM T q) q T ExM A s S H locs → lv_has ls 3 [(0, .ref (q 0)), (1, .int x1), (2, .int x2)] → XG p l e ({ frames := 0, cells := 0, slots := 0, locals := 0 }) s m args below meth c D 17 (cellM T q) q T A SF (some (.int r)) H locs 2 ls [])  (x1 : Int32) (x2 : Int32) (S : St) {H : Heap} {locs : List Loc} {ls : Array Slot} (hf : jMod_leastOf_b2 K2 x1 x2 S = some (r, SF)) (hw : Xw D 17 (cellM T q) q T ExM A s S H locs) (hl : lv_has ls 3 [(0, .ref (q 0)), (1, .int x1), (2, .int x2)]) : XG p l e ({ frames := 0, cells := 0, slots := 0, locals := 0 }) s m args below meth c D 17 (cellM T q) q T A SF (some (.int r)) H locs 2 ls [] := by
  unfold jMod_leastOf_b2 at hf
  obtain ⟨hx, hb, hr, hml, hown, hts, hlk, hA⟩ := id B
  refine lv_iload_n hx hb dX7_leastOf_2 rfl (lv_at hl 2 rfl) ?_
  refine lv_aload_n hx hb dX7_leastOf_3 rfl (lv_at hl 0 rfl) ?_
  refine x_get B hw (Tb := TX7) inX7 0 (by decide) rfl rfl 5 (by decide) u695 (fun _ h => h) rfl dX7_leastOf_4 ?_
  refine lv_iconst (v := 0) hx hb dX7_leastOf_7 (by decide) ?_
  refine x_iald B hw 4 (by decide) rfl dX7_leastOf_8 hf (fun v1 hf => ?_)
  refine lv_icmp_ge (tgt := 30) hx hb dX7_leastOf_9 (by decide) (fun hc => ?_) (fun hc => ?_)
  · have hf := x_pos hc hf
    refine lv_bipush (v := (-9)) hx hb dX7_leastOf_30 (by decide) ?_
    exact x_iret B hw hf dX7_leastOf_32
  · have hf := x_neg hc hf
    refine lv_aload_n hx hb dX7_leastOf_12 rfl (lv_at hl 0 rfl) ?_
    refine x_get B hw (Tb := TX7) inX7 0 (by decide) rfl rfl 8 (by decide) u698 (fun _ h => h) rfl dX7_leastOf_13 ?_
    refine lv_iload_n hx hb dX7_leastOf_16 rfl (lv_at hl 2 rfl) ?_
    refine x_iald B hw 7 (by decide) rfl dX7_leastOf_17 hf (fun v2 hf => ?_)
    refine lv_iload_n hx hb dX7_leastOf_18 rfl (lv_at hl 1 rfl) ?_
    refine lv_icmp_ne (tgt := 24) hx hb dX7_leastOf_19 (by decide) (fun hc => ?_) (fun hc => ?_)
    · have hf := x_neg hc hf
      refine lv_iinc (v := x2 + 1) (lv' := [(2, .int (x2 + 1)), (0, .ref (q 0)), (1, .int x1)]) hx hb dX7_leastOf_24 hl (k := 2) rfl xi_1 (by decide) rfl (fun ls hl => ?_)
      refine lv_goto (tgt := 2) hx hb dX7_leastOf_27 (by decide) ?_
      exact hK2 x1 (x2 + 1) S _ _ _ hf hw (lv_sub hl [1, 2, 0] rfl)
    · have hf := x_pos hc hf
      refine lv_iload_n hx hb dX7_leastOf_22 rfl (lv_at hl 2 rfl) ?_
      exact x_iret B hw hf dX7_leastOf_23

theorem jMod_leastOf_h2_ok (B : XB p s m args meth c A cX7_leastOf 3 (some .int) RX7) {SF : St} {r : Int32} : ∀ (n : Nat) (x1 : Int32) (x2 : Int32) (S : St) (H : Heap) (locs : List Loc) (ls : Array Slot), jMod_leastOf_h2 n x1 x2 S = some (r, SF) → Xw D 17 (cellM T q) q T ExM A s S H locs → lv_has ls 3 [(0, .ref (q 0)), (1, .int x1), (2, .int x2)] → XG p l e ({ frames := 0, cells := 0, slots := 0, locals := 0 }) s m args below meth c D 17 (cellM T q) q T A SF (some (.int r)) H locs 2 ls [] := by
  intro n
  induction n with
  | zero =>
    intro x1 x2 S H locs ls hf hw hl
    rw [jMod_leastOf_h2] at hf
    cases hf
  | succ n ih =>
    intro x1 x2 S H locs ls hf hw hl
    rw [jMod_leastOf_h2] at hf
    exact jMod_leastOf_b2_ok B (jMod_leastOf_h2 n) ih x1 x2 S hf hw hl

set_option maxHeartbeats 4000000 in
theorem jMod_leastOf_b0_ok (B : XB p s m args meth c A cX7_leastOf 3 (some .int) RX7) {SF : St} {r : Int32}  (x1 : Int32) (S : St) {H : Heap} {locs : List Loc} {ls : Array Slot} (hf : jMod_leastOf x1 S = some (r, SF)) (hw : Xw D 17 (cellM T q) q T ExM A s S H locs) (hl : lv_has ls 3 [(0, .ref (q 0)), (1, .int x1)]) : XG p l e ({ frames := 0, cells := 0, slots := 0, locals := 0 }) s m args below meth c D 17 (cellM T q) q T A SF (some (.int r)) H locs 0 ls [] := by
  unfold jMod_leastOf at hf
  obtain ⟨hx, hb, hr, hml, hown, hts, hlk, hA⟩ := id B
  refine lv_iconst (v := 0) hx hb dX7_leastOf_0 (by decide) ?_
  refine lv_istore_n (lv' := [(2, .int 0), (0, .ref (q 0)), (1, .int x1)]) hx hb dX7_leastOf_1 rfl hl (by decide) rfl (fun ls hl => ?_)
  exact jMod_leastOf_h2_ok B FU x1 0 S _ _ _ hf hw (lv_sub hl [1, 2, 0] rfl)

set_option maxHeartbeats 4000000 in
theorem jMod_leastOf_ok {x1 : Int32} {S SF : St} {r : Int32} (hf : jMod_leastOf x1 S = some (r, SF)) : XMet l D 17 (cellM T q) q T ExM yX7_leastOf cX7_leastOf 3 (some .int) ({ frames := 0, cells := 0, slots := 0, locals := 0 }) [.ref (q 0), .int x1] S (some (.int r)) SF := by
  refine x_enter (own := RX7) (by decide +kernel) rfl (Nat.le_of_ble_eq_true rfl) (fun p e s m below meth c A B ls hw hl0 => ?_)
  have hl : lv_has ls 3 [(0, .ref (q 0)), (1, .int x1)] := hl0
  exact jMod_leastOf_b0_ok B x1 S hf hw hl

set_option maxHeartbeats 4000000 in
theorem jMod_common_b6_ok (B : XB p s m args meth c A cX7_common 10 (some .long) RX7) {SF : St} {r : Int64} (K6 : Int64 → Int64 → St → Option (Int64 × St)) (hK6 : ∀ (y4 : Int64) (y6 : Int64) (S : St) (H : Heap) (locs : List Loc) (ls : Array Slot), K6 y4 y6 S = some (r, SF) → Xw D 17 (cellM T q) q T ExM A s S H locs → lv_has ls 10 [(4, .long y4), (6, .long y6)] → XG p l e ({ frames := 0, cells := 0, slots := 0, locals := 0 }) s m args below meth c D 17 (cellM T q) q T A SF (some (.long r)) H locs 6 ls [])  (y4 : Int64) (y6 : Int64) (S : St) {H : Heap} {locs : List Loc} {ls : Array Slot} (hf : jMod_common_b6 K6 y4 y6 S = some (r, SF)) (hw : Xw D 17 (cellM T q) q T ExM A s S H locs) (hl : lv_has ls 10 [(4, .long y4), (6, .long y6)]) : XG p l e ({ frames := 0, cells := 0, slots := 0, locals := 0 }) s m args below meth c D 17 (cellM T q) q T A SF (some (.long r)) H locs 6 ls [] := by
  unfold jMod_common_b6 at hf
  obtain ⟨hx, hb, hr, hml, hown, hts, hlk, hA⟩ := id B
  refine lv_lload hx hb dX7_common_6 (lv_at hl 1 rfl) ?_
  refine lv_lconst (v := 0) hx hb dX7_common_8 (by decide) ?_
  refine W.lcmp hx hb dX7_common_9 ?_
  refine lv_if_eq (tgt := 31) hx hb dX7_common_10 (by decide) (fun hc => ?_) (fun hc => ?_)
  · have hf := x_pos hc hf
    refine lv_lload hx hb dX7_common_31 (lv_at hl 0 rfl) ?_
    exact x_lret B hw hf dX7_common_33
  · have hf := x_neg hc hf
    refine lv_lload hx hb dX7_common_13 (lv_at hl 0 rfl) ?_
    refine lv_lload hx hb dX7_common_15 (lv_at hl 1 rfl) ?_
    obtain ⟨hne, hf⟩ := x_ng hf
    refine lv_lrem hx hb dX7_common_17 hne ?_
    refine x_letl hf (fun v1 hf => ?_)
    refine lv_lstore (lv' := [(8, .long v1), (4, .long y4), (6, .long y6)]) hx hb dX7_common_18 hl (by decide) rfl (fun ls hl => ?_)
    refine lv_lload hx hb dX7_common_20 (lv_at hl 2 rfl) ?_
    refine lv_lstore (lv' := [(4, .long y6), (8, .long v1), (6, .long y6)]) hx hb dX7_common_22 hl (by decide) rfl (fun ls hl => ?_)
    refine lv_lload hx hb dX7_common_24 (lv_at hl 1 rfl) ?_
    refine lv_lstore (lv' := [(6, .long v1), (4, .long y6), (8, .long v1)]) hx hb dX7_common_26 hl (by decide) rfl (fun ls hl => ?_)
    refine lv_goto (tgt := 6) hx hb dX7_common_28 (by decide) ?_
    exact hK6 y6 v1 S _ _ _ hf hw (lv_sub hl [1, 0] rfl)

theorem jMod_common_h6_ok (B : XB p s m args meth c A cX7_common 10 (some .long) RX7) {SF : St} {r : Int64} : ∀ (n : Nat) (y4 : Int64) (y6 : Int64) (S : St) (H : Heap) (locs : List Loc) (ls : Array Slot), jMod_common_h6 n y4 y6 S = some (r, SF) → Xw D 17 (cellM T q) q T ExM A s S H locs → lv_has ls 10 [(4, .long y4), (6, .long y6)] → XG p l e ({ frames := 0, cells := 0, slots := 0, locals := 0 }) s m args below meth c D 17 (cellM T q) q T A SF (some (.long r)) H locs 6 ls [] := by
  intro n
  induction n with
  | zero =>
    intro y4 y6 S H locs ls hf hw hl
    rw [jMod_common_h6] at hf
    cases hf
  | succ n ih =>
    intro y4 y6 S H locs ls hf hw hl
    rw [jMod_common_h6] at hf
    exact jMod_common_b6_ok B (jMod_common_h6 n) ih y4 y6 S hf hw hl

set_option maxHeartbeats 4000000 in
theorem jMod_common_b0_ok (B : XB p s m args meth c A cX7_common 10 (some .long) RX7) {SF : St} {r : Int64}  (y0 : Int64) (y2 : Int64) (S : St) {H : Heap} {locs : List Loc} {ls : Array Slot} (hf : jMod_common y0 y2 S = some (r, SF)) (hw : Xw D 17 (cellM T q) q T ExM A s S H locs) (hl : lv_has ls 10 [(0, .long y0), (2, .long y2)]) : XG p l e ({ frames := 0, cells := 0, slots := 0, locals := 0 }) s m args below meth c D 17 (cellM T q) q T A SF (some (.long r)) H locs 0 ls [] := by
  unfold jMod_common at hf
  obtain ⟨hx, hb, hr, hml, hown, hts, hlk, hA⟩ := id B
  refine lv_lload_n hx hb dX7_common_0 rfl (lv_at hl 0 rfl) ?_
  refine lv_lstore (lv' := [(4, .long y0), (0, .long y0), (2, .long y2)]) hx hb dX7_common_1 hl (by decide) rfl (fun ls hl => ?_)
  refine lv_lload_n hx hb dX7_common_3 rfl (lv_at hl 2 rfl) ?_
  refine lv_lstore (lv' := [(6, .long y2), (4, .long y0), (0, .long y0), (2, .long y2)]) hx hb dX7_common_4 hl (by decide) rfl (fun ls hl => ?_)
  exact jMod_common_h6_ok B FU y0 y2 S _ _ _ hf hw (lv_sub hl [1, 0] rfl)

set_option maxHeartbeats 4000000 in
theorem jMod_common_ok {y0 : Int64} {y2 : Int64} {S SF : St} {r : Int64} (hf : jMod_common y0 y2 S = some (r, SF)) : XMet l D 17 (cellM T q) q T ExM yX7_common cX7_common 10 (some .long) ({ frames := 0, cells := 0, slots := 0, locals := 0 }) [.long y0, .long y2] S (some (.long r)) SF := by
  refine x_enter (own := RX7) (by decide +kernel) rfl (Nat.le_of_ble_eq_true rfl) (fun p e s m below meth c A B ls hw hl0 => ?_)
  have hl : lv_has ls 10 [(0, .long y0), (2, .long y2)] := hl0
  exact jMod_common_b0_ok B y0 y2 S hf hw hl
end
