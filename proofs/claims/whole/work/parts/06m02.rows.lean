section
variable {p : Program} {l : Launch} {e : Env} {s : State} {m : MethodId} {args : Array Value} {below : List Frame} {meth : Method} {c : Code} {D : va_G} {q aK aV : Nat → Nat} {T : Nat → ClassId} {A : Nat → Prop}
set_option maxHeartbeats 4000000 in
theorem jMod_undo_b115_ok (B : XB p s m args meth c A cX7_undo 5 (some .int) RX7) {SF : St} {r : Int32} (K64 : Int32 → Int32 → Int32 → St → Option (Int32 × St)) (hK64 : ∀ (x1 : Int32) (x2 : Int32) (x3 : Int32) (S : St) (H : Heap) (locs : List Loc) (ls : Array Slot), K64 x1 x2 x3 S = some (r, SF) → Xw D 17 (cellM T q) q T ExM A s S H locs → lv_has ls 5 [(0, .ref (q 0)), (1, .int x1), (2, .int x2), (3, .int x3)] → XG p l e ({ frames := 0, cells := 0, slots := 0, locals := 0 }) s m args below meth c D 17 (cellM T q) q T A SF (some (.int r)) H locs 64 ls [])  (x1 : Int32) (x2 : Int32) (x3 : Int32) (s0 : Int32) (s1 : Int32) (S : St) {H : Heap} {locs : List Loc} {ls : Array Slot} (hf : jMod_undo_b115 K64 x1 x2 x3 s0 s1 S = some (r, SF)) (hw : Xw D 17 (cellM T q) q T ExM A s S H locs) (hl : lv_has ls 5 [(0, .ref (q 0)), (1, .int x1), (2, .int x2), (3, .int x3)]) : XG p l e ({ frames := 0, cells := 0, slots := 0, locals := 0 }) s m args below meth c D 17 (cellM T q) q T A SF (some (.int r)) H locs 115 ls [.int s0, .int s1, .ref (q 9)] := by
  unfold jMod_undo_b115 at hf
  obtain ⟨hx, hb, hr, hml, hown, hts, hlk, hA⟩ := id B
  refine x_iast B hw 9 (by decide) (fun _ _ => rfl) dX7_undo_115 hf (fun S12 H locs hw hf => ?_)
  refine lv_iinc (v := x3 + 1) (lv' := [(3, .int (x3 + 1)), (0, .ref (q 0)), (1, .int x1), (2, .int x2)]) hx hb dX7_undo_116 hl (k := 3) rfl xi_1 (by decide) rfl (fun ls hl => ?_)
  refine lv_goto (tgt := 64) hx hb dX7_undo_119 (by decide) ?_
  exact hK64 x1 x2 (x3 + 1) S12 _ _ _ hf hw (lv_sub hl [1, 2, 3, 0] rfl)

set_option maxHeartbeats 4000000 in
theorem jMod_undo_b64_ok (B : XB p s m args meth c A cX7_undo 5 (some .int) RX7) {SF : St} {r : Int32} (K64 : Int32 → Int32 → Int32 → St → Option (Int32 × St)) (hK64 : ∀ (x1 : Int32) (x2 : Int32) (x3 : Int32) (S : St) (H : Heap) (locs : List Loc) (ls : Array Slot), K64 x1 x2 x3 S = some (r, SF) → Xw D 17 (cellM T q) q T ExM A s S H locs → lv_has ls 5 [(0, .ref (q 0)), (1, .int x1), (2, .int x2), (3, .int x3)] → XG p l e ({ frames := 0, cells := 0, slots := 0, locals := 0 }) s m args below meth c D 17 (cellM T q) q T A SF (some (.int r)) H locs 64 ls [])  (x1 : Int32) (x2 : Int32) (x3 : Int32) (S : St) {H : Heap} {locs : List Loc} {ls : Array Slot} (hf : jMod_undo_b64 K64 x1 x2 x3 S = some (r, SF)) (hw : Xw D 17 (cellM T q) q T ExM A s S H locs) (hl : lv_has ls 5 [(0, .ref (q 0)), (1, .int x1), (2, .int x2), (3, .int x3)]) : XG p l e ({ frames := 0, cells := 0, slots := 0, locals := 0 }) s m args below meth c D 17 (cellM T q) q T A SF (some (.int r)) H locs 64 ls [] := by
  unfold jMod_undo_b64 at hf
  obtain ⟨hx, hb, hr, hml, hown, hts, hlk, hA⟩ := id B
  refine lv_iload_n hx hb dX7_undo_64 rfl (lv_at hl 3 rfl) ?_
  refine lv_iconst (v := 5) hx hb dX7_undo_65 (by decide) ?_
  refine lv_icmp_ge (tgt := 122) hx hb dX7_undo_66 (by decide) (fun hc => ?_) (fun hc => ?_)
  · have hf := x_pos hc hf
    refine lv_aload_n hx hb dX7_undo_122 rfl (lv_at hl 0 rfl) ?_
    refine x_get B hw (Tb := TX7) inX7 0 (by decide) rfl rfl 16 (by decide) u706 (fun _ h => h) rfl dX7_undo_123 ?_
    refine lv_bipush (v := 32) hx hb dX7_undo_126 (by decide) ?_
    refine x_iald B hw 9 (by decide) rfl dX7_undo_128 hf (fun v8 hf => ?_)
    exact x_iret B hw hf dX7_undo_129
  · have hf := x_neg hc hf
    refine lv_aload_n hx hb dX7_undo_69 rfl (lv_at hl 0 rfl) ?_
    refine x_get B hw (Tb := TX7) inX7 0 (by decide) rfl rfl 16 (by decide) u706 (fun _ h => h) rfl dX7_undo_70 ?_
    refine lv_iconst (v := 5) hx hb dX7_undo_73 (by decide) ?_
    refine lv_iload_n hx hb dX7_undo_74 rfl (lv_at hl 1 rfl) ?_
    refine lv_imul hx hb dX7_undo_75 ?_
    refine lv_iload_n hx hb dX7_undo_76 rfl (lv_at hl 3 rfl) ?_
    refine lv_iadd hx hb dX7_undo_77 ?_
    refine x_iald B hw 9 (by decide) rfl dX7_undo_78 hf (fun v9 hf => ?_)
    refine lv_aload_n hx hb dX7_undo_79 rfl (lv_at hl 0 rfl) ?_
    refine x_get B hw (Tb := TX7) inX7 0 (by decide) rfl rfl 6 (by decide) u696 (fun _ h => h) rfl dX7_undo_80 ?_
    refine lv_iconst (v := 5) hx hb dX7_undo_83 (by decide) ?_
    refine lv_iload_n hx hb dX7_undo_84 rfl (lv_at hl 2 rfl) ?_
    refine lv_imul hx hb dX7_undo_85 ?_
    refine lv_iload_n hx hb dX7_undo_86 rfl (lv_at hl 3 rfl) ?_
    refine lv_iadd hx hb dX7_undo_87 ?_
    refine x_iald B hw 5 (by decide) rfl dX7_undo_88 hf (fun v10 hf => ?_)
    refine lv_iadd hx hb dX7_undo_89 ?_
    refine x_leti hf (fun v11 hf => ?_)
    refine lv_istore (lv' := [(4, .int v11), (0, .ref (q 0)), (1, .int x1), (2, .int x2), (3, .int x3)]) hx hb dX7_undo_90 hl (by decide) rfl (fun ls hl => ?_)
    refine lv_aload_n hx hb dX7_undo_92 rfl (lv_at hl 1 rfl) ?_
    refine x_get B hw (Tb := TX7) inX7 0 (by decide) rfl rfl 16 (by decide) u706 (fun _ h => h) rfl dX7_undo_93 ?_
    refine lv_iconst (v := 5) hx hb dX7_undo_96 (by decide) ?_
    refine lv_iload_n hx hb dX7_undo_97 rfl (lv_at hl 2 rfl) ?_
    refine lv_imul hx hb dX7_undo_98 ?_
    refine lv_iload_n hx hb dX7_undo_99 rfl (lv_at hl 4 rfl) ?_
    refine lv_iadd hx hb dX7_undo_100 ?_
    refine lv_iload hx hb dX7_undo_101 (lv_at hl 0 rfl) ?_
    refine lv_bipush (v := 9) hx hb dX7_undo_103 (by decide) ?_
    refine lv_icmp_le (tgt := 113) hx hb dX7_undo_105 (by decide) (fun hc => ?_) (fun hc => ?_)
    · have hf := x_pos hc hf
      refine lv_iload hx hb dX7_undo_113 (lv_at hl 0 rfl) ?_
      exact jMod_undo_b115_ok B K64 hK64 x1 x2 x3 v11 ((5 * x1) + x3) S hf hw (lv_sub hl [1, 2, 3, 4] rfl)
    · have hf := x_neg hc hf
      refine lv_bipush (v := 9) hx hb dX7_undo_108 (by decide) ?_
      refine lv_goto (tgt := 115) hx hb dX7_undo_110 (by decide) ?_
      exact jMod_undo_b115_ok B K64 hK64 x1 x2 x3 9 ((5 * x1) + x3) S hf hw (lv_sub hl [1, 2, 3, 4] rfl)

theorem jMod_undo_h64_ok (B : XB p s m args meth c A cX7_undo 5 (some .int) RX7) {SF : St} {r : Int32} : ∀ (n : Nat) (x1 : Int32) (x2 : Int32) (x3 : Int32) (S : St) (H : Heap) (locs : List Loc) (ls : Array Slot), jMod_undo_h64 n x1 x2 x3 S = some (r, SF) → Xw D 17 (cellM T q) q T ExM A s S H locs → lv_has ls 5 [(0, .ref (q 0)), (1, .int x1), (2, .int x2), (3, .int x3)] → XG p l e ({ frames := 0, cells := 0, slots := 0, locals := 0 }) s m args below meth c D 17 (cellM T q) q T A SF (some (.int r)) H locs 64 ls [] := by
  intro n
  induction n with
  | zero =>
    intro x1 x2 x3 S H locs ls hf hw hl
    rw [jMod_undo_h64] at hf
    cases hf
  | succ n ih =>
    intro x1 x2 x3 S H locs ls hf hw hl
    rw [jMod_undo_h64] at hf
    exact jMod_undo_b64_ok B (jMod_undo_h64 n) ih x1 x2 x3 S hf hw hl

set_option maxHeartbeats 4000000 in
theorem jMod_undo_b0_ok (B : XB p s m args meth c A cX7_undo 5 (some .int) RX7) {SF : St} {r : Int32}  (S : St) {H : Heap} {locs : List Loc} {ls : Array Slot} (hf : jMod_undo S = some (r, SF)) (hw : Xw D 17 (cellM T q) q T ExM A s S H locs) (hl : lv_has ls 5 [(0, .ref (q 0))]) : XG p l e ({ frames := 0, cells := 0, slots := 0, locals := 0 }) s m args below meth c D 17 (cellM T q) q T A SF (some (.int r)) H locs 0 ls [] := by
  unfold jMod_undo at hf
  obtain ⟨hx, hb, hr, hml, hown, hts, hlk, hA⟩ := id B
  refine lv_aload_n hx hb dX7_undo_0 rfl (lv_at hl 0 rfl) ?_
  refine x_get B hw (Tb := TX7) inX7 0 (by decide) rfl rfl 16 (by decide) u706 (fun _ h => h) rfl dX7_undo_1 ?_
  refine lv_bipush (v := 32) hx hb dX7_undo_4 (by decide) ?_
  refine x_iald B hw 9 (by decide) rfl dX7_undo_6 hf (fun v1 hf => ?_)
  refine lv_if_ne (tgt := 13) hx hb dX7_undo_7 (by decide) (fun hc => ?_) (fun hc => ?_)
  · have hf := x_neg hc hf
    refine lv_aload_n hx hb dX7_undo_13 rfl (lv_at hl 0 rfl) ?_
    refine x_get B hw (Tb := TX7) inX7 0 (by decide) rfl rfl 16 (by decide) u706 (fun _ h => h) rfl dX7_undo_14 ?_
    refine lv_bipush (v := 32) hx hb dX7_undo_17 (by decide) ?_
    refine lv_dup2_11 hx hb dX7_undo_19 rfl rfl ?_
    refine x_iald B hw 9 (by decide) rfl dX7_undo_20 hf (fun v2 hf => ?_)
    refine lv_iconst (v := 1) hx hb dX7_undo_21 (by decide) ?_
    refine lv_isub hx hb dX7_undo_22 ?_
    refine x_iast B hw 9 (by decide) (fun _ _ => rfl) dX7_undo_23 hf (fun S3 H locs hw hf => ?_)
    refine lv_aload_n hx hb dX7_undo_24 rfl (lv_at hl 0 rfl) ?_
    refine x_get B hw (Tb := TX7) inX7 0 (by decide) rfl rfl 16 (by decide) u706 (fun _ h => h) rfl dX7_undo_25 ?_
    refine lv_bipush (v := 33) hx hb dX7_undo_28 (by decide) ?_
    refine lv_iconst (v := 2) hx hb dX7_undo_30 (by decide) ?_
    refine lv_aload_n hx hb dX7_undo_31 rfl (lv_at hl 0 rfl) ?_
    refine x_get B hw (Tb := TX7) inX7 0 (by decide) rfl rfl 16 (by decide) u706 (fun _ h => h) rfl dX7_undo_32 ?_
    refine lv_bipush (v := 32) hx hb dX7_undo_35 (by decide) ?_
    refine x_iald B hw 9 (by decide) rfl dX7_undo_37 hf (fun v4 hf => ?_)
    refine lv_imul hx hb dX7_undo_38 ?_
    refine lv_iadd hx hb dX7_undo_39 ?_
    refine x_iald B hw 9 (by decide) rfl dX7_undo_40 hf (fun v5 hf => ?_)
    refine lv_istore_n (lv' := [(1, .int v5), (0, .ref (q 0))]) hx hb dX7_undo_41 rfl hl (by decide) rfl (fun ls hl => ?_)
    refine lv_aload_n hx hb dX7_undo_42 rfl (lv_at hl 1 rfl) ?_
    refine x_get B hw (Tb := TX7) inX7 0 (by decide) rfl rfl 16 (by decide) u706 (fun _ h => h) rfl dX7_undo_43 ?_
    refine lv_bipush (v := 33) hx hb dX7_undo_46 (by decide) ?_
    refine lv_iconst (v := 2) hx hb dX7_undo_48 (by decide) ?_
    refine lv_aload_n hx hb dX7_undo_49 rfl (lv_at hl 1 rfl) ?_
    refine x_get B hw (Tb := TX7) inX7 0 (by decide) rfl rfl 16 (by decide) u706 (fun _ h => h) rfl dX7_undo_50 ?_
    refine lv_bipush (v := 32) hx hb dX7_undo_53 (by decide) ?_
    refine x_iald B hw 9 (by decide) rfl dX7_undo_55 hf (fun v6 hf => ?_)
    refine lv_imul hx hb dX7_undo_56 ?_
    refine lv_iadd hx hb dX7_undo_57 ?_
    refine lv_iconst (v := 1) hx hb dX7_undo_58 (by decide) ?_
    refine lv_iadd hx hb dX7_undo_59 ?_
    refine x_iald B hw 9 (by decide) rfl dX7_undo_60 hf (fun v7 hf => ?_)
    refine lv_istore_n (lv' := [(2, .int v7), (1, .int v5), (0, .ref (q 0))]) hx hb dX7_undo_61 rfl hl (by decide) rfl (fun ls hl => ?_)
    refine lv_iconst (v := 0) hx hb dX7_undo_62 (by decide) ?_
    refine lv_istore_n (lv' := [(3, .int 0), (2, .int v7), (1, .int v5), (0, .ref (q 0))]) hx hb dX7_undo_63 rfl hl (by decide) rfl (fun ls hl => ?_)
    exact jMod_undo_h64_ok B FU v5 v7 0 S3 _ _ _ hf hw (lv_sub hl [3, 2, 1, 0] rfl)
  · have hf := x_pos hc hf
    refine lv_bipush (v := (-2)) hx hb dX7_undo_10 (by decide) ?_
    exact x_iret B hw hf dX7_undo_12

set_option maxHeartbeats 4000000 in
theorem jMod_undo_ok {S SF : St} {r : Int32} (hf : jMod_undo S = some (r, SF)) : XMet l D 17 (cellM T q) q T ExM yX7_undo cX7_undo 5 (some .int) ({ frames := 0, cells := 0, slots := 0, locals := 0 }) [.ref (q 0)] S (some (.int r)) SF := by
  refine x_enter (own := RX7) (by decide +kernel) rfl (Nat.le_of_ble_eq_true rfl) (fun p e s m below meth c A B ls hw hl0 => ?_)
  have hl : lv_has ls 5 [(0, .ref (q 0))] := hl0
  exact jMod_undo_b0_ok B S hf hw hl

set_option maxHeartbeats 4000000 in
theorem jMod_gives_b0_ok (B : XB p s m args meth c A cX7_gives 5 (some .int) RX7) {SF : St} {r : Int32}  (x1 : Int32) (x2 : Int32) (x3 : Int32) (x4 : Int32) (S : St) {H : Heap} {locs : List Loc} {ls : Array Slot} (hf : jMod_gives x1 x2 x3 x4 S = some (r, SF)) (hw : Xw D 17 (cellM T q) q T ExM A s S H locs) (hl : lv_has ls 5 [(0, .ref (q 0)), (1, .int x1), (2, .int x2), (3, .int x3), (4, .int x4)]) : XG p l e ({ frames := 2, cells := 0, slots := 0, locals := 43 }) s m args below meth c D 17 (cellM T q) q T A SF (some (.int r)) H locs 0 ls [] := by
  unfold jMod_gives at hf
  obtain ⟨hx, hb, hr, hml, hown, hts, hlk, hA⟩ := id B
  refine lv_aload_n hx hb dX7_gives_0 rfl (lv_at hl 0 rfl) ?_
  refine lv_iload_n hx hb dX7_gives_1 rfl (lv_at hl 1 rfl) ?_
  obtain ⟨v2, S1, hc, hf⟩ := x_bd_some hf
  refine x_callV B ExM_ok hw 0 (by decide) rfl rfl (As := [.int x1]) (rest := []) (st1 := [.int v2]) (jMod_isHouse_ok hc) u807 u809 u22 u45 u810 hdX7_isHouse rfl ⟨Nat.le_of_ble_eq_true rfl, Nat.le_of_ble_eq_true rfl⟩ ⟨rfl, rfl⟩ hl.1 (Nat.le_of_ble_eq_true rfl) dX7_gives_2 (fun H locs hw => ?_) rfl rfl
  refine lv_if_eq (tgt := 41) hx hb dX7_gives_5 (by decide) (fun hc => ?_) (fun hc => ?_)
  · have hf := x_pos hc hf
    refine lv_iconst (v := (-1)) hx hb dX7_gives_41 (by decide) ?_
    exact x_iret B hw hf dX7_gives_42
  · have hf := x_neg hc hf
    refine lv_aload_n hx hb dX7_gives_8 rfl (lv_at hl 0 rfl) ?_
    refine lv_iload_n hx hb dX7_gives_9 rfl (lv_at hl 2 rfl) ?_
    obtain ⟨v4, S3, hc, hf⟩ := x_bd_some hf
    refine x_callV B ExM_ok hw 0 (by decide) rfl rfl (As := [.int x2]) (rest := []) (st1 := [.int v4]) (jMod_isHouse_ok hc) u807 u809 u22 u45 u810 hdX7_isHouse rfl ⟨Nat.le_of_ble_eq_true rfl, Nat.le_of_ble_eq_true rfl⟩ ⟨rfl, rfl⟩ hl.1 (Nat.le_of_ble_eq_true rfl) dX7_gives_10 (fun H locs hw => ?_) rfl rfl
    refine lv_if_eq (tgt := 41) hx hb dX7_gives_13 (by decide) (fun hc => ?_) (fun hc => ?_)
    · have hf := x_pos hc hf
      refine lv_iconst (v := (-1)) hx hb dX7_gives_41 (by decide) ?_
      exact x_iret B hw hf dX7_gives_42
    · have hf := x_neg hc hf
      refine lv_iload_n hx hb dX7_gives_16 rfl (lv_at hl 1 rfl) ?_
      refine lv_iload_n hx hb dX7_gives_17 rfl (lv_at hl 2 rfl) ?_
      refine lv_icmp_eq (tgt := 41) hx hb dX7_gives_18 (by decide) (fun hc => ?_) (fun hc => ?_)
      · have hf := x_pos hc hf
        refine lv_iconst (v := (-1)) hx hb dX7_gives_41 (by decide) ?_
        exact x_iret B hw hf dX7_gives_42
      · have hf := x_neg hc hf
        refine lv_iload_n hx hb dX7_gives_21 rfl (lv_at hl 3 rfl) ?_
        refine lv_iconst (v := 0) hx hb dX7_gives_22 (by decide) ?_
        refine lv_iconst (v := 4) hx hb dX7_gives_23 (by decide) ?_
        obtain ⟨v6, S5, hc, hf⟩ := x_bd_some hf
        refine x_callS B ExM_ok hw (As := [.int x3, .int 0, .int 4]) (rest := []) (st1 := [.int v6]) (jMod_in_ok hc) u768 u769 u45 u770 hdX7_in rfl ⟨Nat.le_of_ble_eq_true rfl, Nat.le_of_ble_eq_true rfl⟩ ⟨rfl, rfl⟩ hl.1 (Nat.le_of_ble_eq_true rfl) dX7_gives_24 (fun H locs hw => ?_) rfl rfl
        refine lv_if_eq (tgt := 41) hx hb dX7_gives_27 (by decide) (fun hc => ?_) (fun hc => ?_)
        · have hf := x_pos hc hf
          refine lv_iconst (v := (-1)) hx hb dX7_gives_41 (by decide) ?_
          exact x_iret B hw hf dX7_gives_42
        · have hf := x_neg hc hf
          refine lv_iload hx hb dX7_gives_30 (lv_at hl 4 rfl) ?_
          refine lv_iconst (v := 1) hx hb dX7_gives_32 (by decide) ?_
          refine lv_bipush (v := 9) hx hb dX7_gives_33 (by decide) ?_
          obtain ⟨v8, S7, hc, hf⟩ := x_bd_some hf
          refine x_callS B ExM_ok hw (As := [.int x4, .int 1, .int 9]) (rest := []) (st1 := [.int v8]) (jMod_in_ok hc) u768 u769 u45 u770 hdX7_in rfl ⟨Nat.le_of_ble_eq_true rfl, Nat.le_of_ble_eq_true rfl⟩ ⟨rfl, rfl⟩ hl.1 (Nat.le_of_ble_eq_true rfl) dX7_gives_35 (fun H locs hw => ?_) rfl rfl
          refine lv_if_ne (tgt := 43) hx hb dX7_gives_38 (by decide) (fun hc => ?_) (fun hc => ?_)
          · have hf := x_neg hc hf
            refine lv_aload_n hx hb dX7_gives_43 rfl (lv_at hl 0 rfl) ?_
            refine x_get B hw (Tb := TX7) inX7 0 (by decide) rfl rfl 16 (by decide) u706 (fun _ h => h) rfl dX7_gives_44 ?_
            refine lv_iconst (v := 5) hx hb dX7_gives_47 (by decide) ?_
            refine lv_iload_n hx hb dX7_gives_48 rfl (lv_at hl 1 rfl) ?_
            refine lv_imul hx hb dX7_gives_49 ?_
            refine lv_iload_n hx hb dX7_gives_50 rfl (lv_at hl 3 rfl) ?_
            refine lv_iadd hx hb dX7_gives_51 ?_
            refine x_iald B hw 9 (by decide) rfl dX7_gives_52 hf (fun v9 hf => ?_)
            refine lv_iload hx hb dX7_gives_53 (lv_at hl 4 rfl) ?_
            refine lv_icmp_ge (tgt := 61) hx hb dX7_gives_55 (by decide) (fun hc => ?_) (fun hc => ?_)
            · have hf := x_pos hc hf
              refine lv_aload_n hx hb dX7_gives_61 rfl (lv_at hl 0 rfl) ?_
              refine x_get B hw (Tb := TX7) inX7 0 (by decide) rfl rfl 16 (by decide) u706 (fun _ h => h) rfl dX7_gives_62 ?_
              refine lv_iconst (v := 5) hx hb dX7_gives_65 (by decide) ?_
              refine lv_iload_n hx hb dX7_gives_66 rfl (lv_at hl 2 rfl) ?_
              refine lv_imul hx hb dX7_gives_67 ?_
              refine lv_iload_n hx hb dX7_gives_68 rfl (lv_at hl 3 rfl) ?_
              refine lv_iadd hx hb dX7_gives_69 ?_
              refine x_iald B hw 9 (by decide) rfl dX7_gives_70 hf (fun v10 hf => ?_)
              refine lv_iload hx hb dX7_gives_71 (lv_at hl 4 rfl) ?_
              refine lv_iadd hx hb dX7_gives_73 ?_
              refine lv_bipush (v := 9) hx hb dX7_gives_74 (by decide) ?_
              refine lv_icmp_le (tgt := 82) hx hb dX7_gives_76 (by decide) (fun hc => ?_) (fun hc => ?_)
              · have hf := x_pos hc hf
                refine lv_aload_n hx hb dX7_gives_82 rfl (lv_at hl 0 rfl) ?_
                refine x_get B hw (Tb := TX7) inX7 0 (by decide) rfl rfl 16 (by decide) u706 (fun _ h => h) rfl dX7_gives_83 ?_
                refine lv_iconst (v := 5) hx hb dX7_gives_86 (by decide) ?_
                refine lv_iload_n hx hb dX7_gives_87 rfl (lv_at hl 1 rfl) ?_
                refine lv_imul hx hb dX7_gives_88 ?_
                refine lv_iload_n hx hb dX7_gives_89 rfl (lv_at hl 3 rfl) ?_
                refine lv_iadd hx hb dX7_gives_90 ?_
                refine lv_dup2_11 hx hb dX7_gives_91 rfl rfl ?_
                refine x_iald B hw 9 (by decide) rfl dX7_gives_92 hf (fun v11 hf => ?_)
                refine lv_iload hx hb dX7_gives_93 (lv_at hl 4 rfl) ?_
                refine lv_isub hx hb dX7_gives_95 ?_
                refine x_iast B hw 9 (by decide) (fun _ _ => rfl) dX7_gives_96 hf (fun S12 H locs hw hf => ?_)
                refine lv_aload_n hx hb dX7_gives_97 rfl (lv_at hl 0 rfl) ?_
                refine x_get B hw (Tb := TX7) inX7 0 (by decide) rfl rfl 16 (by decide) u706 (fun _ h => h) rfl dX7_gives_98 ?_
                refine lv_iconst (v := 5) hx hb dX7_gives_101 (by decide) ?_
                refine lv_iload_n hx hb dX7_gives_102 rfl (lv_at hl 2 rfl) ?_
                refine lv_imul hx hb dX7_gives_103 ?_
                refine lv_iload_n hx hb dX7_gives_104 rfl (lv_at hl 3 rfl) ?_
                refine lv_iadd hx hb dX7_gives_105 ?_
                refine lv_dup2_11 hx hb dX7_gives_106 rfl rfl ?_
                refine x_iald B hw 9 (by decide) rfl dX7_gives_107 hf (fun v13 hf => ?_)
                refine lv_iload hx hb dX7_gives_108 (lv_at hl 4 rfl) ?_
                refine lv_iadd hx hb dX7_gives_110 ?_
                refine x_iast B hw 9 (by decide) (fun _ _ => rfl) dX7_gives_111 hf (fun S14 H locs hw hf => ?_)
                refine lv_aload_n hx hb dX7_gives_112 rfl (lv_at hl 0 rfl) ?_
                refine x_get B hw (Tb := TX7) inX7 0 (by decide) rfl rfl 16 (by decide) u706 (fun _ h => h) rfl dX7_gives_113 ?_
                refine lv_iconst (v := 5) hx hb dX7_gives_116 (by decide) ?_
                refine lv_iload_n hx hb dX7_gives_117 rfl (lv_at hl 2 rfl) ?_
                refine lv_imul hx hb dX7_gives_118 ?_
                refine lv_iload_n hx hb dX7_gives_119 rfl (lv_at hl 3 rfl) ?_
                refine lv_iadd hx hb dX7_gives_120 ?_
                refine x_iald B hw 9 (by decide) rfl dX7_gives_121 hf (fun v15 hf => ?_)
                exact x_iret B hw hf dX7_gives_122
              · have hf := x_neg hc hf
                refine lv_bipush (v := (-3)) hx hb dX7_gives_79 (by decide) ?_
                exact x_iret B hw hf dX7_gives_81
            · have hf := x_neg hc hf
              refine lv_bipush (v := (-2)) hx hb dX7_gives_58 (by decide) ?_
              exact x_iret B hw hf dX7_gives_60
          · have hf := x_pos hc hf
            refine lv_iconst (v := (-1)) hx hb dX7_gives_41 (by decide) ?_
            exact x_iret B hw hf dX7_gives_42

set_option maxHeartbeats 4000000 in
theorem jMod_gives_ok {x1 : Int32} {x2 : Int32} {x3 : Int32} {x4 : Int32} {S SF : St} {r : Int32} (hf : jMod_gives x1 x2 x3 x4 S = some (r, SF)) : XMet l D 17 (cellM T q) q T ExM yX7_gives cX7_gives 5 (some .int) ({ frames := 2, cells := 0, slots := 0, locals := 43 }) [.ref (q 0), .int x1, .int x2, .int x3, .int x4] S (some (.int r)) SF := by
  refine x_enter (own := RX7) (by decide +kernel) rfl (Nat.le_of_ble_eq_true rfl) (fun p e s m below meth c A B ls hw hl0 => ?_)
  have hl : lv_has ls 5 [(0, .ref (q 0)), (1, .int x1), (2, .int x2), (3, .int x3), (4, .int x4)] := hl0
  exact jMod_gives_b0_ok B x1 x2 x3 x4 S hf hw hl

set_option maxHeartbeats 4000000 in
theorem jMod_burns_b18_ok (B : XB p s m args meth c A cX7_burns 4 (some .int) RX7) {SF : St} {r : Int32} (K18 : Int32 → Int32 → Int32 → St → Option (Int32 × St)) (hK18 : ∀ (x1 : Int32) (x2 : Int32) (x3 : Int32) (S : St) (H : Heap) (locs : List Loc) (ls : Array Slot), K18 x1 x2 x3 S = some (r, SF) → Xw D 17 (cellM T q) q T ExM A s S H locs → lv_has ls 4 [(0, .ref (q 0)), (1, .int x1), (2, .int x2), (3, .int x3)] → XG p l e ({ frames := 2, cells := 0, slots := 0, locals := 43 }) s m args below meth c D 17 (cellM T q) q T A SF (some (.int r)) H locs 18 ls [])  (x1 : Int32) (x2 : Int32) (x3 : Int32) (S : St) {H : Heap} {locs : List Loc} {ls : Array Slot} (hf : jMod_burns_b18 K18 x1 x2 x3 S = some (r, SF)) (hw : Xw D 17 (cellM T q) q T ExM A s S H locs) (hl : lv_has ls 4 [(0, .ref (q 0)), (1, .int x1), (2, .int x2), (3, .int x3)]) : XG p l e ({ frames := 2, cells := 0, slots := 0, locals := 43 }) s m args below meth c D 17 (cellM T q) q T A SF (some (.int r)) H locs 18 ls [] := by
  unfold jMod_burns_b18 at hf
  obtain ⟨hx, hb, hr, hml, hown, hts, hlk, hA⟩ := id B
  refine lv_iload_n hx hb dX7_burns_18 rfl (lv_at hl 3 rfl) ?_
  refine lv_iconst (v := 5) hx hb dX7_burns_19 (by decide) ?_
  refine lv_icmp_ge (tgt := 40) hx hb dX7_burns_20 (by decide) (fun hc => ?_) (fun hc => ?_)
  · have hf := x_pos hc hf
    refine lv_iload_n hx hb dX7_burns_40 rfl (lv_at hl 2 rfl) ?_
    exact x_iret B hw hf dX7_burns_41
  · have hf := x_neg hc hf
    refine lv_aload_n hx hb dX7_burns_23 rfl (lv_at hl 0 rfl) ?_
    refine x_get B hw (Tb := TX7) inX7 0 (by decide) rfl rfl 16 (by decide) u706 (fun _ h => h) rfl dX7_burns_24 ?_
    refine lv_iconst (v := 5) hx hb dX7_burns_27 (by decide) ?_
    refine lv_iload_n hx hb dX7_burns_28 rfl (lv_at hl 1 rfl) ?_
    refine lv_imul hx hb dX7_burns_29 ?_
    refine lv_iload_n hx hb dX7_burns_30 rfl (lv_at hl 3 rfl) ?_
    refine lv_iadd hx hb dX7_burns_31 ?_
    refine lv_iconst (v := 0) hx hb dX7_burns_32 (by decide) ?_
    refine x_iast B hw 9 (by decide) (fun _ _ => rfl) dX7_burns_33 hf (fun S5 H locs hw hf => ?_)
    refine lv_iinc (v := x3 + 1) (lv' := [(3, .int (x3 + 1)), (0, .ref (q 0)), (1, .int x1), (2, .int x2)]) hx hb dX7_burns_34 hl (k := 3) rfl xi_1 (by decide) rfl (fun ls hl => ?_)
    refine lv_goto (tgt := 18) hx hb dX7_burns_37 (by decide) ?_
    exact hK18 x1 x2 (x3 + 1) S5 _ _ _ hf hw (lv_sub hl [1, 2, 3, 0] rfl)

theorem jMod_burns_h18_ok (B : XB p s m args meth c A cX7_burns 4 (some .int) RX7) {SF : St} {r : Int32} : ∀ (n : Nat) (x1 : Int32) (x2 : Int32) (x3 : Int32) (S : St) (H : Heap) (locs : List Loc) (ls : Array Slot), jMod_burns_h18 n x1 x2 x3 S = some (r, SF) → Xw D 17 (cellM T q) q T ExM A s S H locs → lv_has ls 4 [(0, .ref (q 0)), (1, .int x1), (2, .int x2), (3, .int x3)] → XG p l e ({ frames := 2, cells := 0, slots := 0, locals := 43 }) s m args below meth c D 17 (cellM T q) q T A SF (some (.int r)) H locs 18 ls [] := by
  intro n
  induction n with
  | zero =>
    intro x1 x2 x3 S H locs ls hf hw hl
    rw [jMod_burns_h18] at hf
    cases hf
  | succ n ih =>
    intro x1 x2 x3 S H locs ls hf hw hl
    rw [jMod_burns_h18] at hf
    exact jMod_burns_b18_ok B (jMod_burns_h18 n) ih x1 x2 x3 S hf hw hl

set_option maxHeartbeats 4000000 in
theorem jMod_burns_b0_ok (B : XB p s m args meth c A cX7_burns 4 (some .int) RX7) {SF : St} {r : Int32}  (x1 : Int32) (S : St) {H : Heap} {locs : List Loc} {ls : Array Slot} (hf : jMod_burns x1 S = some (r, SF)) (hw : Xw D 17 (cellM T q) q T ExM A s S H locs) (hl : lv_has ls 4 [(0, .ref (q 0)), (1, .int x1)]) : XG p l e ({ frames := 2, cells := 0, slots := 0, locals := 43 }) s m args below meth c D 17 (cellM T q) q T A SF (some (.int r)) H locs 0 ls [] := by
  unfold jMod_burns at hf
  obtain ⟨hx, hb, hr, hml, hown, hts, hlk, hA⟩ := id B
  refine lv_aload_n hx hb dX7_burns_0 rfl (lv_at hl 0 rfl) ?_
  refine lv_iload_n hx hb dX7_burns_1 rfl (lv_at hl 1 rfl) ?_
  obtain ⟨v2, S1, hc, hf⟩ := x_bd_some hf
  refine x_callV B ExM_ok hw 0 (by decide) rfl rfl (As := [.int x1]) (rest := []) (st1 := [.int v2]) (jMod_isHouse_ok hc) u807 u809 u22 u45 u810 hdX7_isHouse rfl ⟨Nat.le_of_ble_eq_true rfl, Nat.le_of_ble_eq_true rfl⟩ ⟨rfl, rfl⟩ hl.1 (Nat.le_of_ble_eq_true rfl) dX7_burns_2 (fun H locs hw => ?_) rfl rfl
  refine lv_if_ne (tgt := 10) hx hb dX7_burns_5 (by decide) (fun hc => ?_) (fun hc => ?_)
  · have hf := x_neg hc hf
    refine lv_aload_n hx hb dX7_burns_10 rfl (lv_at hl 0 rfl) ?_
    refine lv_iload_n hx hb dX7_burns_11 rfl (lv_at hl 1 rfl) ?_
    obtain ⟨v4, S3, hc, hf⟩ := x_bd_some hf
    refine x_callV B ExM_ok hw 0 (by decide) rfl rfl (As := [.int x1]) (rest := []) (st1 := [.int v4]) (jMod_storeOf_ok hc) u811 u813 u23 u45 u814 hdX7_storeOf rfl ⟨Nat.le_of_ble_eq_true rfl, Nat.le_of_ble_eq_true rfl⟩ ⟨rfl, rfl⟩ hl.1 (Nat.le_of_ble_eq_true rfl) dX7_burns_12 (fun H locs hw => ?_) rfl rfl
    refine lv_istore_n (lv' := [(2, .int v4), (0, .ref (q 0)), (1, .int x1)]) hx hb dX7_burns_15 rfl hl (by decide) rfl (fun ls hl => ?_)
    refine lv_iconst (v := 0) hx hb dX7_burns_16 (by decide) ?_
    refine lv_istore_n (lv' := [(3, .int 0), (2, .int v4), (0, .ref (q 0)), (1, .int x1)]) hx hb dX7_burns_17 rfl hl (by decide) rfl (fun ls hl => ?_)
    exact jMod_burns_h18_ok B FU x1 v4 0 S3 _ _ _ hf hw (lv_sub hl [2, 3, 1, 0] rfl)
  · have hf := x_pos hc hf
    refine lv_iconst (v := (-1)) hx hb dX7_burns_8 (by decide) ?_
    exact x_iret B hw hf dX7_burns_9

set_option maxHeartbeats 4000000 in
theorem jMod_burns_ok {x1 : Int32} {S SF : St} {r : Int32} (hf : jMod_burns x1 S = some (r, SF)) : XMet l D 17 (cellM T q) q T ExM yX7_burns cX7_burns 4 (some .int) ({ frames := 2, cells := 0, slots := 0, locals := 43 }) [.ref (q 0), .int x1] S (some (.int r)) SF := by
  refine x_enter (own := RX7) (by decide +kernel) rfl (Nat.le_of_ble_eq_true rfl) (fun p e s m below meth c A B ls hw hl0 => ?_)
  have hl : lv_has ls 4 [(0, .ref (q 0)), (1, .int x1)] := hl0
  exact jMod_burns_b0_ok B x1 S hf hw hl

set_option maxHeartbeats 4000000 in
theorem jMod_plume_b0_ok (B : XB p s m args meth c A cX7_plume 3 (some .int) RX7) {SF : St} {r : Int32}  (x1 : Int32) (x2 : Int32) (S : St) {H : Heap} {locs : List Loc} {ls : Array Slot} (hf : jMod_plume x1 x2 S = some (r, SF)) (hw : Xw D 17 (cellM T q) q T ExM A s S H locs) (hl : lv_has ls 3 [(0, .ref (q 0)), (1, .int x1), (2, .int x2)]) : XG p l e ({ frames := 1, cells := 0, slots := 0, locals := 22 }) s m args below meth c D 17 (cellM T q) q T A SF (some (.int r)) H locs 0 ls [] := by
  unfold jMod_plume at hf
  obtain ⟨hx, hb, hr, hml, hown, hts, hlk, hA⟩ := id B
  refine lv_iload_n hx hb dX7_plume_0 rfl (lv_at hl 1 rfl) ?_
  refine lv_iconst (v := 0) hx hb dX7_plume_1 (by decide) ?_
  refine lv_aload_n hx hb dX7_plume_2 rfl (lv_at hl 0 rfl) ?_
  refine x_get B hw (Tb := TX7) inX7 0 (by decide) rfl rfl 16 (by decide) u706 (fun _ h => h) rfl dX7_plume_3 ?_
  refine lv_bipush (v := 32) hx hb dX7_plume_6 (by decide) ?_
  refine x_iald B hw 9 (by decide) rfl dX7_plume_8 hf (fun v1 hf => ?_)
  refine lv_iconst (v := 1) hx hb dX7_plume_9 (by decide) ?_
  refine lv_isub hx hb dX7_plume_10 ?_
  obtain ⟨v3, S2, hc, hf⟩ := x_bd_some hf
  refine x_callS B ExM_ok hw (As := [.int x1, .int 0, .int (v1 - 1)]) (rest := []) (st1 := [.int v3]) (jMod_in_ok hc) u768 u769 u45 u770 hdX7_in rfl ⟨Nat.le_of_ble_eq_true rfl, Nat.le_of_ble_eq_true rfl⟩ ⟨rfl, rfl⟩ hl.1 (Nat.le_of_ble_eq_true rfl) dX7_plume_11 (fun H locs hw => ?_) rfl rfl
  refine lv_if_eq (tgt := 26) hx hb dX7_plume_14 (by decide) (fun hc => ?_) (fun hc => ?_)
  · have hf := x_pos hc hf
    refine lv_iconst (v := (-1)) hx hb dX7_plume_26 (by decide) ?_
    exact x_iret B hw hf dX7_plume_27
  · have hf := x_neg hc hf
    refine lv_iload_n hx hb dX7_plume_17 rfl (lv_at hl 2 rfl) ?_
    refine lv_iconst (v := 0) hx hb dX7_plume_18 (by decide) ?_
    refine lv_iconst (v := 1) hx hb dX7_plume_19 (by decide) ?_
    obtain ⟨v5, S4, hc, hf⟩ := x_bd_some hf
    refine x_callS B ExM_ok hw (As := [.int x2, .int 0, .int 1]) (rest := []) (st1 := [.int v5]) (jMod_in_ok hc) u768 u769 u45 u770 hdX7_in rfl ⟨Nat.le_of_ble_eq_true rfl, Nat.le_of_ble_eq_true rfl⟩ ⟨rfl, rfl⟩ hl.1 (Nat.le_of_ble_eq_true rfl) dX7_plume_20 (fun H locs hw => ?_) rfl rfl
    refine lv_if_ne (tgt := 28) hx hb dX7_plume_23 (by decide) (fun hc => ?_) (fun hc => ?_)
    · have hf := x_neg hc hf
      refine lv_iload_n hx hb dX7_plume_28 rfl (lv_at hl 2 rfl) ?_
      refine lv_if_ne (tgt := 46) hx hb dX7_plume_29 (by decide) (fun hc => ?_) (fun hc => ?_)
      · have hf := x_neg hc hf
        refine lv_aload_n hx hb dX7_plume_46 rfl (lv_at hl 0 rfl) ?_
        refine x_get B hw (Tb := TX7) inX7 0 (by decide) rfl rfl 7 (by decide) u697 (fun _ h => h) rfl dX7_plume_47 ?_
        refine lv_aload_n hx hb dX7_plume_50 rfl (lv_at hl 0 rfl) ?_
        refine x_get B hw (Tb := TX7) inX7 0 (by decide) rfl rfl 16 (by decide) u706 (fun _ h => h) rfl dX7_plume_51 ?_
        refine lv_bipush (v := 33) hx hb dX7_plume_54 (by decide) ?_
        refine lv_iconst (v := 2) hx hb dX7_plume_56 (by decide) ?_
        refine lv_iload_n hx hb dX7_plume_57 rfl (lv_at hl 1 rfl) ?_
        refine lv_imul hx hb dX7_plume_58 ?_
        refine lv_iadd hx hb dX7_plume_59 ?_
        refine lv_iconst (v := 1) hx hb dX7_plume_60 (by decide) ?_
        refine lv_iadd hx hb dX7_plume_61 ?_
        refine x_iald B hw 9 (by decide) rfl dX7_plume_62 hf (fun v6 hf => ?_)
        refine x_iald B hw 6 (by decide) rfl dX7_plume_63 hf (fun v7 hf => ?_)
        exact x_iret B hw hf dX7_plume_64
      · have hf := x_pos hc hf
        refine lv_aload_n hx hb dX7_plume_32 rfl (lv_at hl 0 rfl) ?_
        refine x_get B hw (Tb := TX7) inX7 0 (by decide) rfl rfl 16 (by decide) u706 (fun _ h => h) rfl dX7_plume_33 ?_
        refine lv_bipush (v := 33) hx hb dX7_plume_36 (by decide) ?_
        refine lv_iconst (v := 2) hx hb dX7_plume_38 (by decide) ?_
        refine lv_iload_n hx hb dX7_plume_39 rfl (lv_at hl 1 rfl) ?_
        refine lv_imul hx hb dX7_plume_40 ?_
        refine lv_iadd hx hb dX7_plume_41 ?_
        refine x_iald B hw 9 (by decide) rfl dX7_plume_42 hf (fun v8 hf => ?_)
        refine lv_goto (tgt := 64) hx hb dX7_plume_43 (by decide) ?_
        exact x_iret B hw hf dX7_plume_64
    · have hf := x_pos hc hf
      refine lv_iconst (v := (-1)) hx hb dX7_plume_26 (by decide) ?_
      exact x_iret B hw hf dX7_plume_27

set_option maxHeartbeats 4000000 in
theorem jMod_plume_ok {x1 : Int32} {x2 : Int32} {S SF : St} {r : Int32} (hf : jMod_plume x1 x2 S = some (r, SF)) : XMet l D 17 (cellM T q) q T ExM yX7_plume cX7_plume 3 (some .int) ({ frames := 1, cells := 0, slots := 0, locals := 22 }) [.ref (q 0), .int x1, .int x2] S (some (.int r)) SF := by
  refine x_enter (own := RX7) (by decide +kernel) rfl (Nat.le_of_ble_eq_true rfl) (fun p e s m below meth c A B ls hw hl0 => ?_)
  have hl : lv_has ls 3 [(0, .ref (q 0)), (1, .int x1), (2, .int x2)] := hl0
  exact jMod_plume_b0_ok B x1 x2 S hf hw hl

set_option maxHeartbeats 4000000 in
theorem jMod_fog_b0_ok (B : XB p s m args meth c A cX7_fog 3 (some .int) RX7) {SF : St} {r : Int32}  (x1 : Int32) (S : St) {H : Heap} {locs : List Loc} {ls : Array Slot} (hf : jMod_fog x1 S = some (r, SF)) (hw : Xw D 17 (cellM T q) q T ExM A s S H locs) (hl : lv_has ls 3 [(0, .ref (q 0)), (1, .int x1)]) : XG p l e ({ frames := 1, cells := 0, slots := 0, locals := 22 }) s m args below meth c D 17 (cellM T q) q T A SF (some (.int r)) H locs 0 ls [] := by
  unfold jMod_fog at hf
  obtain ⟨hx, hb, hr, hml, hown, hts, hlk, hA⟩ := id B
  refine lv_iload_n hx hb dX7_fog_0 rfl (lv_at hl 1 rfl) ?_
  refine lv_iconst (v := 0) hx hb dX7_fog_1 (by decide) ?_
  refine lv_iconst (v := 5) hx hb dX7_fog_2 (by decide) ?_
  obtain ⟨v2, S1, hc, hf⟩ := x_bd_some hf
  refine x_callS B ExM_ok hw (As := [.int x1, .int 0, .int 5]) (rest := []) (st1 := [.int v2]) (jMod_in_ok hc) u768 u769 u45 u770 hdX7_in rfl ⟨Nat.le_of_ble_eq_true rfl, Nat.le_of_ble_eq_true rfl⟩ ⟨rfl, rfl⟩ hl.1 (Nat.le_of_ble_eq_true rfl) dX7_fog_3 (fun H locs hw => ?_) rfl rfl
  refine lv_if_ne (tgt := 11) hx hb dX7_fog_6 (by decide) (fun hc => ?_) (fun hc => ?_)
  · have hf := x_neg hc hf
    refine lv_aload_n hx hb dX7_fog_11 rfl (lv_at hl 0 rfl) ?_
    refine x_get B hw (Tb := TX7) inX7 0 (by decide) rfl rfl 16 (by decide) u706 (fun _ h => h) rfl dX7_fog_12 ?_
    refine lv_bipush (v := 30) hx hb dX7_fog_15 (by decide) ?_
    refine x_iald B hw 9 (by decide) rfl dX7_fog_17 hf (fun v3 hf => ?_)
    refine lv_istore_n (lv' := [(2, .int v3), (0, .ref (q 0)), (1, .int x1)]) hx hb dX7_fog_18 rfl hl (by decide) rfl (fun ls hl => ?_)
    refine lv_aload_n hx hb dX7_fog_19 rfl (lv_at hl 1 rfl) ?_
    refine x_get B hw (Tb := TX7) inX7 0 (by decide) rfl rfl 16 (by decide) u706 (fun _ h => h) rfl dX7_fog_20 ?_
    refine lv_bipush (v := 30) hx hb dX7_fog_23 (by decide) ?_
    refine lv_iload_n hx hb dX7_fog_25 rfl (lv_at hl 2 rfl) ?_
    refine x_iast B hw 9 (by decide) (fun _ _ => rfl) dX7_fog_26 hf (fun S4 H locs hw hf => ?_)
    refine lv_iload_n hx hb dX7_fog_27 rfl (lv_at hl 0 rfl) ?_
    exact x_iret B hw hf dX7_fog_28
  · have hf := x_pos hc hf
    refine lv_iconst (v := (-1)) hx hb dX7_fog_9 (by decide) ?_
    exact x_iret B hw hf dX7_fog_10

set_option maxHeartbeats 4000000 in
theorem jMod_fog_ok {x1 : Int32} {S SF : St} {r : Int32} (hf : jMod_fog x1 S = some (r, SF)) : XMet l D 17 (cellM T q) q T ExM yX7_fog cX7_fog 3 (some .int) ({ frames := 1, cells := 0, slots := 0, locals := 22 }) [.ref (q 0), .int x1] S (some (.int r)) SF := by
  refine x_enter (own := RX7) (by decide +kernel) rfl (Nat.le_of_ble_eq_true rfl) (fun p e s m below meth c A B ls hw hl0 => ?_)
  have hl : lv_has ls 3 [(0, .ref (q 0)), (1, .int x1)] := hl0
  exact jMod_fog_b0_ok B x1 S hf hw hl

set_option maxHeartbeats 4000000 in
theorem jMod_areWords_b0_ok (B : XB p s m args meth c A cX7_areWords 3 (some .boolean) RX7) {SF : St} {r : Int32}  (x0 : Int32) (x1 : Int32) (x2 : Int32) (S : St) {H : Heap} {locs : List Loc} {ls : Array Slot} (hf : jMod_areWords x0 x1 x2 S = some (r, SF)) (hw : Xw D 17 (cellM T q) q T ExM A s S H locs) (hl : lv_has ls 3 [(0, .int x0), (1, .int x1), (2, .int x2)]) : XG p l e ({ frames := 1, cells := 0, slots := 0, locals := 22 }) s m args below meth c D 17 (cellM T q) q T A SF (some (.int r)) H locs 0 ls [] := by
  unfold jMod_areWords at hf
  obtain ⟨hx, hb, hr, hml, hown, hts, hlk, hA⟩ := id B
  refine lv_iload_n hx hb dX7_areWords_0 rfl (lv_at hl 0 rfl) ?_
  refine lv_iconst (v := 0) hx hb dX7_areWords_1 (by decide) ?_
  refine lv_bipush (v := 7) hx hb dX7_areWords_2 (by decide) ?_
  obtain ⟨v2, S1, hc, hf⟩ := x_bd_some hf
  refine x_callS B ExM_ok hw (As := [.int x0, .int 0, .int 7]) (rest := []) (st1 := [.int v2]) (jMod_in_ok hc) u768 u769 u45 u770 hdX7_in rfl ⟨Nat.le_of_ble_eq_true rfl, Nat.le_of_ble_eq_true rfl⟩ ⟨rfl, rfl⟩ hl.1 (Nat.le_of_ble_eq_true rfl) dX7_areWords_4 (fun H locs hw => ?_) rfl rfl
  refine lv_if_eq (tgt := 42) hx hb dX7_areWords_7 (by decide) (fun hc => ?_) (fun hc => ?_)
  · have hf := x_pos hc hf
    refine lv_iconst (v := 0) hx hb dX7_areWords_42 (by decide) ?_
    exact x_zret B hw hf dX7_areWords_43
  · have hf := x_neg hc hf
    refine lv_iload_n hx hb dX7_areWords_10 rfl (lv_at hl 1 rfl) ?_
    refine lv_iconst (v := (-1)) hx hb dX7_areWords_11 (by decide) ?_
    refine lv_bipush (v := 7) hx hb dX7_areWords_12 (by decide) ?_
    obtain ⟨v4, S3, hc, hf⟩ := x_bd_some hf
    refine x_callS B ExM_ok hw (As := [.int x1, .int (-1), .int 7]) (rest := []) (st1 := [.int v4]) (jMod_in_ok hc) u768 u769 u45 u770 hdX7_in rfl ⟨Nat.le_of_ble_eq_true rfl, Nat.le_of_ble_eq_true rfl⟩ ⟨rfl, rfl⟩ hl.1 (Nat.le_of_ble_eq_true rfl) dX7_areWords_14 (fun H locs hw => ?_) rfl rfl
    refine lv_if_eq (tgt := 42) hx hb dX7_areWords_17 (by decide) (fun hc => ?_) (fun hc => ?_)
    · have hf := x_pos hc hf
      refine lv_iconst (v := 0) hx hb dX7_areWords_42 (by decide) ?_
      exact x_zret B hw hf dX7_areWords_43
    · have hf := x_neg hc hf
      refine lv_iload_n hx hb dX7_areWords_20 rfl (lv_at hl 2 rfl) ?_
      refine lv_iconst (v := (-1)) hx hb dX7_areWords_21 (by decide) ?_
      refine lv_bipush (v := 7) hx hb dX7_areWords_22 (by decide) ?_
      obtain ⟨v6, S5, hc, hf⟩ := x_bd_some hf
      refine x_callS B ExM_ok hw (As := [.int x2, .int (-1), .int 7]) (rest := []) (st1 := [.int v6]) (jMod_in_ok hc) u768 u769 u45 u770 hdX7_in rfl ⟨Nat.le_of_ble_eq_true rfl, Nat.le_of_ble_eq_true rfl⟩ ⟨rfl, rfl⟩ hl.1 (Nat.le_of_ble_eq_true rfl) dX7_areWords_24 (fun H locs hw => ?_) rfl rfl
      refine lv_if_eq (tgt := 42) hx hb dX7_areWords_27 (by decide) (fun hc => ?_) (fun hc => ?_)
      · have hf := x_pos hc hf
        refine lv_iconst (v := 0) hx hb dX7_areWords_42 (by decide) ?_
        exact x_zret B hw hf dX7_areWords_43
      · have hf := x_neg hc hf
        refine lv_iload_n hx hb dX7_areWords_30 rfl (lv_at hl 1 rfl) ?_
        refine lv_if_ge (tgt := 38) hx hb dX7_areWords_31 (by decide) (fun hc => ?_) (fun hc => ?_)
        · have hf := x_pos hc hf
          refine lv_iconst (v := 1) hx hb dX7_areWords_38 (by decide) ?_
          refine lv_goto (tgt := 43) hx hb dX7_areWords_39 (by decide) ?_
          exact x_zret B hw hf dX7_areWords_43
        · have hf := x_neg hc hf
          refine lv_iload_n hx hb dX7_areWords_34 rfl (lv_at hl 2 rfl) ?_
          refine lv_if_ge (tgt := 42) hx hb dX7_areWords_35 (by decide) (fun hc => ?_) (fun hc => ?_)
          · have hf := x_pos hc hf
            refine lv_iconst (v := 0) hx hb dX7_areWords_42 (by decide) ?_
            exact x_zret B hw hf dX7_areWords_43
          · have hf := x_neg hc hf
            refine lv_iconst (v := 1) hx hb dX7_areWords_38 (by decide) ?_
            refine lv_goto (tgt := 43) hx hb dX7_areWords_39 (by decide) ?_
            exact x_zret B hw hf dX7_areWords_43

set_option maxHeartbeats 4000000 in
theorem jMod_areWords_ok {x0 : Int32} {x1 : Int32} {x2 : Int32} {S SF : St} {r : Int32} (hf : jMod_areWords x0 x1 x2 S = some (r, SF)) : XMet l D 17 (cellM T q) q T ExM yX7_areWords cX7_areWords 3 (some .boolean) ({ frames := 1, cells := 0, slots := 0, locals := 22 }) [.int x0, .int x1, .int x2] S (some (.int r)) SF := by
  refine x_enter (own := RX7) (by decide +kernel) rfl (Nat.le_of_ble_eq_true rfl) (fun p e s m below meth c A B ls hw hl0 => ?_)
  have hl : lv_has ls 3 [(0, .int x0), (1, .int x1), (2, .int x2)] := hl0
  exact jMod_areWords_b0_ok B x0 x1 x2 S hf hw hl

set_option maxHeartbeats 4000000 in
theorem jMod_ask_b0_ok (B : XB p s m args meth c A cX7_ask 4 none RX7) {SF : St}  (x1 : Int32) (x2 : Int32) (x3 : Int32) (S : St) {H : Heap} {locs : List Loc} {ls : Array Slot} (hf : jMod_ask x1 x2 x3 S = some SF) (hw : Xw D 17 (cellM T q) q T ExM A s S H locs) (hl : lv_has ls 4 [(0, .ref (q 0)), (1, .int x1), (2, .int x2), (3, .int x3)]) : XG p l e ({ frames := 0, cells := 0, slots := 0, locals := 0 }) s m args below meth c D 17 (cellM T q) q T A SF none H locs 0 ls [] := by
  unfold jMod_ask at hf
  obtain ⟨hx, hb, hr, hml, hown, hts, hlk, hA⟩ := id B
  refine lv_aload_n hx hb dX7_ask_0 rfl (lv_at hl 0 rfl) ?_
  refine x_get B hw (Tb := TX7) inX7 0 (by decide) rfl rfl 20 (by decide) u710 (fun _ h => h) rfl dX7_ask_1 ?_
  refine lv_iconst (v := 0) hx hb dX7_ask_4 (by decide) ?_
  refine lv_iload_n hx hb dX7_ask_5 rfl (lv_at hl 1 rfl) ?_
  refine x_iast B hw 13 (by decide) (fun _ _ => rfl) dX7_ask_6 hf (fun S1 H locs hw hf => ?_)
  refine lv_aload_n hx hb dX7_ask_7 rfl (lv_at hl 0 rfl) ?_
  refine x_get B hw (Tb := TX7) inX7 0 (by decide) rfl rfl 20 (by decide) u710 (fun _ h => h) rfl dX7_ask_8 ?_
  refine lv_iconst (v := 1) hx hb dX7_ask_11 (by decide) ?_
  refine lv_iload_n hx hb dX7_ask_12 rfl (lv_at hl 2 rfl) ?_
  refine x_iast B hw 13 (by decide) (fun _ _ => rfl) dX7_ask_13 hf (fun S2 H locs hw hf => ?_)
  refine lv_aload_n hx hb dX7_ask_14 rfl (lv_at hl 0 rfl) ?_
  refine x_get B hw (Tb := TX7) inX7 0 (by decide) rfl rfl 20 (by decide) u710 (fun _ h => h) rfl dX7_ask_15 ?_
  refine lv_iconst (v := 2) hx hb dX7_ask_18 (by decide) ?_
  refine lv_iload_n hx hb dX7_ask_19 rfl (lv_at hl 3 rfl) ?_
  refine x_iast B hw 13 (by decide) (fun _ _ => rfl) dX7_ask_20 hf (fun S3 H locs hw hf => ?_)
  exact x_vret B hw hf dX7_ask_21

set_option maxHeartbeats 4000000 in
theorem jMod_ask_ok {x1 : Int32} {x2 : Int32} {x3 : Int32} {S SF : St} (hf : jMod_ask x1 x2 x3 S = some SF) : XMet l D 17 (cellM T q) q T ExM yX7_ask cX7_ask 4 none ({ frames := 0, cells := 0, slots := 0, locals := 0 }) [.ref (q 0), .int x1, .int x2, .int x3] S none SF := by
  refine x_enter (own := RX7) (by decide +kernel) rfl (Nat.le_of_ble_eq_true rfl) (fun p e s m below meth c A B ls hw hl0 => ?_)
  have hl : lv_has ls 4 [(0, .ref (q 0)), (1, .int x1), (2, .int x2), (3, .int x3)] := hl0
  exact jMod_ask_b0_ok B x1 x2 x3 S hf hw hl

set_option maxHeartbeats 4000000 in
theorem jMod_isRow_b69_ok (B : XB p s m args meth c A cX7_isRow 6 (some .boolean) RX7) {SF : St} {r : Int32} (K38 : Int32 → Int32 → Int32 → St → Option (Int32 × St)) (hK38 : ∀ (x2 : Int32) (x3 : Int32) (x4 : Int32) (S : St) (H : Heap) (locs : List Loc) (ls : Array Slot), K38 x2 x3 x4 S = some (r, SF) → Xw D 17 (cellM T q) q T ExM A s S H locs → lv_has ls 6 [(0, .ref (q 0)), (2, .int x2), (3, .int x3), (4, .int x4)] → XG p l e ({ frames := 0, cells := 0, slots := 0, locals := 0 }) s m args below meth c D 17 (cellM T q) q T A SF (some (.int r)) H locs 38 ls [])  (x2 : Int32) (x3 : Int32) (x4 : Int32) (s0 : Int32) (S : St) {H : Heap} {locs : List Loc} {ls : Array Slot} (hf : jMod_isRow_b69 K38 x2 x3 x4 s0 S = some (r, SF)) (hw : Xw D 17 (cellM T q) q T ExM A s S H locs) (hl : lv_has ls 6 [(0, .ref (q 0)), (2, .int x2), (3, .int x3), (4, .int x4)]) : XG p l e ({ frames := 0, cells := 0, slots := 0, locals := 0 }) s m args below meth c D 17 (cellM T q) q T A SF (some (.int r)) H locs 69 ls [.int s0] := by
  unfold jMod_isRow_b69 at hf
  obtain ⟨hx, hb, hr, hml, hown, hts, hlk, hA⟩ := id B
  refine lv_istore (lv' := [(5, .int s0), (0, .ref (q 0)), (2, .int x2), (3, .int x3), (4, .int x4)]) hx hb dX7_isRow_69 hl (by decide) rfl (fun ls hl => ?_)
  refine lv_iload_n hx hb dX7_isRow_71 rfl (lv_at hl 3 rfl) ?_
  refine lv_if_eq (tgt := 137) hx hb dX7_isRow_72 (by decide) (fun hc => ?_) (fun hc => ?_)
  · have hf := x_pos hc hf
    refine lv_iconst (v := 0) hx hb dX7_isRow_137 (by decide) ?_
    refine lv_istore_n (lv' := [(3, .int 0), (5, .int s0), (0, .ref (q 0)), (2, .int x2), (4, .int x4)]) hx hb dX7_isRow_138 rfl hl (by decide) rfl (fun ls hl => ?_)
    refine lv_iinc (v := x4 + 1) (lv' := [(4, .int (x4 + 1)), (3, .int 0), (5, .int s0), (0, .ref (q 0)), (2, .int x2)]) hx hb dX7_isRow_139 hl (k := 4) rfl xi_1 (by decide) rfl (fun ls hl => ?_)
    refine lv_goto (tgt := 38) hx hb dX7_isRow_142 (by decide) ?_
    exact hK38 x2 0 (x4 + 1) S _ _ _ hf hw (lv_sub hl [3, 4, 1, 0] rfl)
  · have hf := x_neg hc hf
    refine lv_iload hx hb dX7_isRow_75 (lv_at hl 0 rfl) ?_
    refine lv_if_eq (tgt := 121) hx hb dX7_isRow_77 (by decide) (fun hc => ?_) (fun hc => ?_)
    · have hf := x_pos hc hf
      refine lv_aload_n hx hb dX7_isRow_121 rfl (lv_at hl 1 rfl) ?_
      refine x_get B hw (Tb := TX7) inX7 0 (by decide) rfl rfl 18 (by decide) u708 (fun _ h => h) rfl dX7_isRow_122 ?_
      refine lv_iload hx hb dX7_isRow_125 (lv_at hl 4 rfl) ?_
      refine x_iald B hw 11 (by decide) rfl dX7_isRow_127 hf (fun v4 hf => ?_)
      refine lv_bipush (v := 8) hx hb dX7_isRow_128 (by decide) ?_
      refine lv_icmp_ne (tgt := 137) hx hb dX7_isRow_130 (by decide) (fun hc => ?_) (fun hc => ?_)
      · have hf := x_neg hc hf
        refine lv_iconst (v := 0) hx hb dX7_isRow_137 (by decide) ?_
        refine lv_istore_n (lv' := [(3, .int 0), (5, .int s0), (0, .ref (q 0)), (2, .int x2), (4, .int x4)]) hx hb dX7_isRow_138 rfl hl (by decide) rfl (fun ls hl => ?_)
        refine lv_iinc (v := x4 + 1) (lv' := [(4, .int (x4 + 1)), (3, .int 0), (5, .int s0), (0, .ref (q 0)), (2, .int x2)]) hx hb dX7_isRow_139 hl (k := 4) rfl xi_1 (by decide) rfl (fun ls hl => ?_)
        refine lv_goto (tgt := 38) hx hb dX7_isRow_142 (by decide) ?_
        exact hK38 x2 0 (x4 + 1) S _ _ _ hf hw (lv_sub hl [3, 4, 1, 0] rfl)
      · have hf := x_pos hc hf
        refine lv_iconst (v := 1) hx hb dX7_isRow_133 (by decide) ?_
        refine lv_goto (tgt := 138) hx hb dX7_isRow_134 (by decide) ?_
        refine lv_istore_n (lv' := [(3, .int 1), (5, .int s0), (0, .ref (q 0)), (2, .int x2), (4, .int x4)]) hx hb dX7_isRow_138 rfl hl (by decide) rfl (fun ls hl => ?_)
        refine lv_iinc (v := x4 + 1) (lv' := [(4, .int (x4 + 1)), (3, .int 1), (5, .int s0), (0, .ref (q 0)), (2, .int x2)]) hx hb dX7_isRow_139 hl (k := 4) rfl xi_1 (by decide) rfl (fun ls hl => ?_)
        refine lv_goto (tgt := 38) hx hb dX7_isRow_142 (by decide) ?_
        exact hK38 x2 1 (x4 + 1) S _ _ _ hf hw (lv_sub hl [3, 4, 1, 0] rfl)
    · have hf := x_neg hc hf
      refine lv_aload_n hx hb dX7_isRow_80 rfl (lv_at hl 1 rfl) ?_
      refine x_get B hw (Tb := TX7) inX7 0 (by decide) rfl rfl 18 (by decide) u708 (fun _ h => h) rfl dX7_isRow_81 ?_
      refine lv_iload hx hb dX7_isRow_84 (lv_at hl 4 rfl) ?_
      refine x_iald B hw 11 (by decide) rfl dX7_isRow_86 hf (fun v5 hf => ?_)
      refine lv_aload_n hx hb dX7_isRow_87 rfl (lv_at hl 1 rfl) ?_
      refine x_get B hw (Tb := TX7) inX7 0 (by decide) rfl rfl 5 (by decide) u695 (fun _ h => h) rfl dX7_isRow_88 ?_
      refine lv_iconst (v := 0) hx hb dX7_isRow_91 (by decide) ?_
      refine x_iald B hw 4 (by decide) rfl dX7_isRow_92 hf (fun v6 hf => ?_)
      refine lv_icmp_ge (tgt := 137) hx hb dX7_isRow_93 (by decide) (fun hc => ?_) (fun hc => ?_)
      · have hf := x_pos hc hf
        refine lv_iconst (v := 0) hx hb dX7_isRow_137 (by decide) ?_
        refine lv_istore_n (lv' := [(3, .int 0), (5, .int s0), (0, .ref (q 0)), (2, .int x2), (4, .int x4)]) hx hb dX7_isRow_138 rfl hl (by decide) rfl (fun ls hl => ?_)
        refine lv_iinc (v := x4 + 1) (lv' := [(4, .int (x4 + 1)), (3, .int 0), (5, .int s0), (0, .ref (q 0)), (2, .int x2)]) hx hb dX7_isRow_139 hl (k := 4) rfl xi_1 (by decide) rfl (fun ls hl => ?_)
        refine lv_goto (tgt := 38) hx hb dX7_isRow_142 (by decide) ?_
        exact hK38 x2 0 (x4 + 1) S _ _ _ hf hw (lv_sub hl [3, 4, 1, 0] rfl)
      · have hf := x_neg hc hf
        refine lv_aload_n hx hb dX7_isRow_96 rfl (lv_at hl 1 rfl) ?_
        refine x_get B hw (Tb := TX7) inX7 0 (by decide) rfl rfl 8 (by decide) u698 (fun _ h => h) rfl dX7_isRow_97 ?_
        refine lv_aload_n hx hb dX7_isRow_100 rfl (lv_at hl 1 rfl) ?_
        refine x_get B hw (Tb := TX7) inX7 0 (by decide) rfl rfl 18 (by decide) u708 (fun _ h => h) rfl dX7_isRow_101 ?_
        refine lv_iload hx hb dX7_isRow_104 (lv_at hl 4 rfl) ?_
        refine x_iald B hw 11 (by decide) rfl dX7_isRow_106 hf (fun v7 hf => ?_)
        refine x_iald B hw 7 (by decide) rfl dX7_isRow_107 hf (fun v8 hf => ?_)
        refine lv_aload_n hx hb dX7_isRow_108 rfl (lv_at hl 1 rfl) ?_
        refine x_get B hw (Tb := TX7) inX7 0 (by decide) rfl rfl 20 (by decide) u710 (fun _ h => h) rfl dX7_isRow_109 ?_
        refine lv_iload hx hb dX7_isRow_112 (lv_at hl 4 rfl) ?_
        refine x_iald B hw 13 (by decide) rfl dX7_isRow_114 hf (fun v9 hf => ?_)
        refine lv_icmp_ne (tgt := 137) hx hb dX7_isRow_115 (by decide) (fun hc => ?_) (fun hc => ?_)
        · have hf := x_neg hc hf
          refine lv_iconst (v := 0) hx hb dX7_isRow_137 (by decide) ?_
          refine lv_istore_n (lv' := [(3, .int 0), (5, .int s0), (0, .ref (q 0)), (2, .int x2), (4, .int x4)]) hx hb dX7_isRow_138 rfl hl (by decide) rfl (fun ls hl => ?_)
          refine lv_iinc (v := x4 + 1) (lv' := [(4, .int (x4 + 1)), (3, .int 0), (5, .int s0), (0, .ref (q 0)), (2, .int x2)]) hx hb dX7_isRow_139 hl (k := 4) rfl xi_1 (by decide) rfl (fun ls hl => ?_)
          refine lv_goto (tgt := 38) hx hb dX7_isRow_142 (by decide) ?_
          exact hK38 x2 0 (x4 + 1) S _ _ _ hf hw (lv_sub hl [3, 4, 1, 0] rfl)
        · have hf := x_pos hc hf
          refine lv_goto (tgt := 133) hx hb dX7_isRow_118 (by decide) ?_
          refine lv_iconst (v := 1) hx hb dX7_isRow_133 (by decide) ?_
          refine lv_goto (tgt := 138) hx hb dX7_isRow_134 (by decide) ?_
          refine lv_istore_n (lv' := [(3, .int 1), (5, .int s0), (0, .ref (q 0)), (2, .int x2), (4, .int x4)]) hx hb dX7_isRow_138 rfl hl (by decide) rfl (fun ls hl => ?_)
          refine lv_iinc (v := x4 + 1) (lv' := [(4, .int (x4 + 1)), (3, .int 1), (5, .int s0), (0, .ref (q 0)), (2, .int x2)]) hx hb dX7_isRow_139 hl (k := 4) rfl xi_1 (by decide) rfl (fun ls hl => ?_)
          refine lv_goto (tgt := 38) hx hb dX7_isRow_142 (by decide) ?_
          exact hK38 x2 1 (x4 + 1) S _ _ _ hf hw (lv_sub hl [3, 4, 1, 0] rfl)

set_option maxHeartbeats 4000000 in
theorem jMod_isRow_b38_ok (B : XB p s m args meth c A cX7_isRow 6 (some .boolean) RX7) {SF : St} {r : Int32} (K38 : Int32 → Int32 → Int32 → St → Option (Int32 × St)) (hK38 : ∀ (x2 : Int32) (x3 : Int32) (x4 : Int32) (S : St) (H : Heap) (locs : List Loc) (ls : Array Slot), K38 x2 x3 x4 S = some (r, SF) → Xw D 17 (cellM T q) q T ExM A s S H locs → lv_has ls 6 [(0, .ref (q 0)), (2, .int x2), (3, .int x3), (4, .int x4)] → XG p l e ({ frames := 0, cells := 0, slots := 0, locals := 0 }) s m args below meth c D 17 (cellM T q) q T A SF (some (.int r)) H locs 38 ls [])  (x2 : Int32) (x3 : Int32) (x4 : Int32) (S : St) {H : Heap} {locs : List Loc} {ls : Array Slot} (hf : jMod_isRow_b38 K38 x2 x3 x4 S = some (r, SF)) (hw : Xw D 17 (cellM T q) q T ExM A s S H locs) (hl : lv_has ls 6 [(0, .ref (q 0)), (2, .int x2), (3, .int x3), (4, .int x4)]) : XG p l e ({ frames := 0, cells := 0, slots := 0, locals := 0 }) s m args below meth c D 17 (cellM T q) q T A SF (some (.int r)) H locs 38 ls [] := by
  unfold jMod_isRow_b38 at hf
  obtain ⟨hx, hb, hr, hml, hown, hts, hlk, hA⟩ := id B
  refine lv_iload hx hb dX7_isRow_38 (lv_at hl 3 rfl) ?_
  refine lv_iconst (v := 3) hx hb dX7_isRow_40 (by decide) ?_
  refine lv_icmp_ge (tgt := 145) hx hb dX7_isRow_41 (by decide) (fun hc => ?_) (fun hc => ?_)
  · have hf := x_pos hc hf
    refine lv_iload_n hx hb dX7_isRow_145 rfl (lv_at hl 2 rfl) ?_
    exact x_zret B hw hf dX7_isRow_146
  · have hf := x_neg hc hf
    refine lv_iload_n hx hb dX7_isRow_44 rfl (lv_at hl 1 rfl) ?_
    refine lv_iload hx hb dX7_isRow_45 (lv_at hl 3 rfl) ?_
    refine lv_ishr hx hb dX7_isRow_47 ?_
    refine lv_iconst (v := 1) hx hb dX7_isRow_48 (by decide) ?_
    refine lv_iand hx hb dX7_isRow_49 ?_
    refine lv_iconst (v := 1) hx hb dX7_isRow_50 (by decide) ?_
    refine lv_icmp_ne (tgt := 68) hx hb dX7_isRow_51 (by decide) (fun hc => ?_) (fun hc => ?_)
    · have hf := x_neg hc hf
      refine lv_iconst (v := 0) hx hb dX7_isRow_68 (by decide) ?_
      exact jMod_isRow_b69_ok B K38 hK38 x2 x3 x4 0 S hf hw (lv_sub hl [0, 1, 2, 3] rfl)
    · have hf := x_pos hc hf
      refine lv_aload_n hx hb dX7_isRow_54 rfl (lv_at hl 0 rfl) ?_
      refine x_get B hw (Tb := TX7) inX7 0 (by decide) rfl rfl 20 (by decide) u710 (fun _ h => h) rfl dX7_isRow_55 ?_
      refine lv_iload hx hb dX7_isRow_58 (lv_at hl 3 rfl) ?_
      refine x_iald B hw 13 (by decide) rfl dX7_isRow_60 hf (fun v10 hf => ?_)
      refine lv_if_lt (tgt := 68) hx hb dX7_isRow_61 (by decide) (fun hc => ?_) (fun hc => ?_)
      · have hf := x_pos hc hf
        refine lv_iconst (v := 0) hx hb dX7_isRow_68 (by decide) ?_
        exact jMod_isRow_b69_ok B K38 hK38 x2 x3 x4 0 S hf hw (lv_sub hl [0, 1, 2, 3] rfl)
      · have hf := x_neg hc hf
        refine lv_iconst (v := 1) hx hb dX7_isRow_64 (by decide) ?_
        refine lv_goto (tgt := 69) hx hb dX7_isRow_65 (by decide) ?_
        exact jMod_isRow_b69_ok B K38 hK38 x2 x3 x4 1 S hf hw (lv_sub hl [0, 1, 2, 3] rfl)

theorem jMod_isRow_h38_ok (B : XB p s m args meth c A cX7_isRow 6 (some .boolean) RX7) {SF : St} {r : Int32} : ∀ (n : Nat) (x2 : Int32) (x3 : Int32) (x4 : Int32) (S : St) (H : Heap) (locs : List Loc) (ls : Array Slot), jMod_isRow_h38 n x2 x3 x4 S = some (r, SF) → Xw D 17 (cellM T q) q T ExM A s S H locs → lv_has ls 6 [(0, .ref (q 0)), (2, .int x2), (3, .int x3), (4, .int x4)] → XG p l e ({ frames := 0, cells := 0, slots := 0, locals := 0 }) s m args below meth c D 17 (cellM T q) q T A SF (some (.int r)) H locs 38 ls [] := by
  intro n
  induction n with
  | zero =>
    intro x2 x3 x4 S H locs ls hf hw hl
    rw [jMod_isRow_h38] at hf
    cases hf
  | succ n ih =>
    intro x2 x3 x4 S H locs ls hf hw hl
    rw [jMod_isRow_h38] at hf
    exact jMod_isRow_b38_ok B (jMod_isRow_h38 n) ih x2 x3 x4 S hf hw hl

set_option maxHeartbeats 4000000 in
theorem jMod_isRow_b0_ok (B : XB p s m args meth c A cX7_isRow 6 (some .boolean) RX7) {SF : St} {r : Int32}  (x1 : Int32) (x2 : Int32) (S : St) {H : Heap} {locs : List Loc} {ls : Array Slot} (hf : jMod_isRow x1 x2 S = some (r, SF)) (hw : Xw D 17 (cellM T q) q T ExM A s S H locs) (hl : lv_has ls 6 [(0, .ref (q 0)), (1, .int x1), (2, .int x2)]) : XG p l e ({ frames := 0, cells := 0, slots := 0, locals := 0 }) s m args below meth c D 17 (cellM T q) q T A SF (some (.int r)) H locs 0 ls [] := by
  unfold jMod_isRow at hf
  obtain ⟨hx, hb, hr, hml, hown, hts, hlk, hA⟩ := id B
  refine lv_aload_n hx hb dX7_isRow_0 rfl (lv_at hl 0 rfl) ?_
  refine x_get B hw (Tb := TX7) inX7 0 (by decide) rfl rfl 18 (by decide) u708 (fun _ h => h) rfl dX7_isRow_1 ?_
  refine lv_iconst (v := 0) hx hb dX7_isRow_4 (by decide) ?_
  refine lv_iload_n hx hb dX7_isRow_5 rfl (lv_at hl 1 rfl) ?_
  refine lv_bipush (v := 81) hx hb dX7_isRow_6 (by decide) ?_
  obtain ⟨hne, hf⟩ := x_ng hf
  refine lv_idiv hx hb dX7_isRow_8 hne ?_
  refine x_iast B hw 11 (by decide) (fun _ _ => rfl) dX7_isRow_9 hf (fun S1 H locs hw hf => ?_)
  refine lv_aload_n hx hb dX7_isRow_10 rfl (lv_at hl 0 rfl) ?_
  refine x_get B hw (Tb := TX7) inX7 0 (by decide) rfl rfl 18 (by decide) u708 (fun _ h => h) rfl dX7_isRow_11 ?_
  refine lv_iconst (v := 1) hx hb dX7_isRow_14 (by decide) ?_
  refine lv_iload_n hx hb dX7_isRow_15 rfl (lv_at hl 1 rfl) ?_
  refine lv_bipush (v := 9) hx hb dX7_isRow_16 (by decide) ?_
  obtain ⟨hne, hf⟩ := x_ng hf
  refine lv_idiv hx hb dX7_isRow_18 hne ?_
  refine lv_bipush (v := 9) hx hb dX7_isRow_19 (by decide) ?_
  obtain ⟨hne, hf⟩ := x_ng hf
  refine lv_irem hx hb dX7_isRow_21 hne ?_
  refine x_iast B hw 11 (by decide) (fun _ _ => rfl) dX7_isRow_22 hf (fun S2 H locs hw hf => ?_)
  refine lv_aload_n hx hb dX7_isRow_23 rfl (lv_at hl 0 rfl) ?_
  refine x_get B hw (Tb := TX7) inX7 0 (by decide) rfl rfl 18 (by decide) u708 (fun _ h => h) rfl dX7_isRow_24 ?_
  refine lv_iconst (v := 2) hx hb dX7_isRow_27 (by decide) ?_
  refine lv_iload_n hx hb dX7_isRow_28 rfl (lv_at hl 1 rfl) ?_
  refine lv_bipush (v := 9) hx hb dX7_isRow_29 (by decide) ?_
  obtain ⟨hne, hf⟩ := x_ng hf
  refine lv_irem hx hb dX7_isRow_31 hne ?_
  refine x_iast B hw 11 (by decide) (fun _ _ => rfl) dX7_isRow_32 hf (fun S3 H locs hw hf => ?_)
  refine lv_iconst (v := 1) hx hb dX7_isRow_33 (by decide) ?_
  refine lv_istore_n (lv' := [(3, .int 1), (0, .ref (q 0)), (1, .int x1), (2, .int x2)]) hx hb dX7_isRow_34 rfl hl (by decide) rfl (fun ls hl => ?_)
  refine lv_iconst (v := 0) hx hb dX7_isRow_35 (by decide) ?_
  refine lv_istore (lv' := [(4, .int 0), (3, .int 1), (0, .ref (q 0)), (1, .int x1), (2, .int x2)]) hx hb dX7_isRow_36 hl (by decide) rfl (fun ls hl => ?_)
  exact jMod_isRow_h38_ok B FU x2 1 0 S3 _ _ _ hf hw (lv_sub hl [2, 4, 1, 0] rfl)

set_option maxHeartbeats 4000000 in
theorem jMod_isRow_ok {x1 : Int32} {x2 : Int32} {S SF : St} {r : Int32} (hf : jMod_isRow x1 x2 S = some (r, SF)) : XMet l D 17 (cellM T q) q T ExM yX7_isRow cX7_isRow 6 (some .boolean) ({ frames := 0, cells := 0, slots := 0, locals := 0 }) [.ref (q 0), .int x1, .int x2] S (some (.int r)) SF := by
  refine x_enter (own := RX7) (by decide +kernel) rfl (Nat.le_of_ble_eq_true rfl) (fun p e s m below meth c A B ls hw hl0 => ?_)
  have hl : lv_has ls 6 [(0, .ref (q 0)), (1, .int x1), (2, .int x2)] := hl0
  exact jMod_isRow_b0_ok B x1 x2 S hf hw hl

set_option maxHeartbeats 4000000 in
theorem jMod_hasAll_b15_ok (B : XB p s m args meth c A cX7_hasAll 6 (some .boolean) RX7) {SF : St} {r : Int32} (K4 : Int32 → Int32 → Int32 → St → Option (Int32 × St)) (hK4 : ∀ (x1 : Int32) (x2 : Int32) (x3 : Int32) (S : St) (H : Heap) (locs : List Loc) (ls : Array Slot), K4 x1 x2 x3 S = some (r, SF) → Xw D 17 (cellM T q) q T ExM A s S H locs → lv_has ls 6 [(0, .ref (q 0)), (1, .int x1), (2, .int x2), (3, .int x3)] → XG p l e ({ frames := 0, cells := 0, slots := 0, locals := 0 }) s m args below meth c D 17 (cellM T q) q T A SF (some (.int r)) H locs 4 ls []) (K15 : Int32 → Int32 → Int32 → Int32 → Int32 → St → Option (Int32 × St)) (hK15 : ∀ (x1 : Int32) (x2 : Int32) (x3 : Int32) (x4 : Int32) (x5 : Int32) (S : St) (H : Heap) (locs : List Loc) (ls : Array Slot), K15 x1 x2 x3 x4 x5 S = some (r, SF) → Xw D 17 (cellM T q) q T ExM A s S H locs → lv_has ls 6 [(0, .ref (q 0)), (1, .int x1), (2, .int x2), (3, .int x3), (4, .int x4), (5, .int x5)] → XG p l e ({ frames := 0, cells := 0, slots := 0, locals := 0 }) s m args below meth c D 17 (cellM T q) q T A SF (some (.int r)) H locs 15 ls [])  (x1 : Int32) (x2 : Int32) (x3 : Int32) (x4 : Int32) (x5 : Int32) (S : St) {H : Heap} {locs : List Loc} {ls : Array Slot} (hf : jMod_hasAll_b15 K4 K15 x1 x2 x3 x4 x5 S = some (r, SF)) (hw : Xw D 17 (cellM T q) q T ExM A s S H locs) (hl : lv_has ls 6 [(0, .ref (q 0)), (1, .int x1), (2, .int x2), (3, .int x3), (4, .int x4), (5, .int x5)]) : XG p l e ({ frames := 0, cells := 0, slots := 0, locals := 0 }) s m args below meth c D 17 (cellM T q) q T A SF (some (.int r)) H locs 15 ls [] := by
  unfold jMod_hasAll_b15 at hf
  obtain ⟨hx, hb, hr, hml, hown, hts, hlk, hA⟩ := id B
  refine lv_iload hx hb dX7_hasAll_15 (lv_at hl 5 rfl) ?_
  refine lv_iconst (v := 3) hx hb dX7_hasAll_17 (by decide) ?_
  refine lv_icmp_ge (tgt := 64) hx hb dX7_hasAll_18 (by decide) (fun hc => ?_) (fun hc => ?_)
  · have hf := x_pos hc hf
    refine lv_iload_n hx hb dX7_hasAll_64 rfl (lv_at hl 2 rfl) ?_
    refine lv_if_eq (tgt := 87) hx hb dX7_hasAll_65 (by decide) (fun hc => ?_) (fun hc => ?_)
    · have hf := x_pos hc hf
      refine lv_iconst (v := 0) hx hb dX7_hasAll_87 (by decide) ?_
      refine lv_istore_n (lv' := [(2, .int 0), (0, .ref (q 0)), (1, .int x1), (3, .int x3), (4, .int x4), (5, .int x5)]) hx hb dX7_hasAll_88 rfl hl (by decide) rfl (fun ls hl => ?_)
      refine lv_iinc (v := x3 + 1) (lv' := [(3, .int (x3 + 1)), (2, .int 0), (0, .ref (q 0)), (1, .int x1), (4, .int x4), (5, .int x5)]) hx hb dX7_hasAll_89 hl (k := 3) rfl xi_1 (by decide) rfl (fun ls hl => ?_)
      refine lv_goto (tgt := 4) hx hb dX7_hasAll_92 (by decide) ?_
      exact hK4 x1 0 (x3 + 1) S _ _ _ hf hw (lv_sub hl [2, 3, 1, 0] rfl)
    · have hf := x_neg hc hf
      refine lv_iload hx hb dX7_hasAll_68 (lv_at hl 4 rfl) ?_
      refine lv_aload_n hx hb dX7_hasAll_70 rfl (lv_at hl 0 rfl) ?_
      refine x_get B hw (Tb := TX7) inX7 0 (by decide) rfl rfl 16 (by decide) u706 (fun _ h => h) rfl dX7_hasAll_71 ?_
      refine lv_iconst (v := 5) hx hb dX7_hasAll_74 (by decide) ?_
      refine lv_iload_n hx hb dX7_hasAll_75 rfl (lv_at hl 1 rfl) ?_
      refine lv_imul hx hb dX7_hasAll_76 ?_
      refine lv_iload_n hx hb dX7_hasAll_77 rfl (lv_at hl 3 rfl) ?_
      refine lv_iadd hx hb dX7_hasAll_78 ?_
      refine x_iald B hw 9 (by decide) rfl dX7_hasAll_79 hf (fun v1 hf => ?_)
      refine lv_icmp_gt (tgt := 87) hx hb dX7_hasAll_80 (by decide) (fun hc => ?_) (fun hc => ?_)
      · have hf := x_pos hc hf
        refine lv_iconst (v := 0) hx hb dX7_hasAll_87 (by decide) ?_
        refine lv_istore_n (lv' := [(2, .int 0), (0, .ref (q 0)), (1, .int x1), (3, .int x3), (4, .int x4), (5, .int x5)]) hx hb dX7_hasAll_88 rfl hl (by decide) rfl (fun ls hl => ?_)
        refine lv_iinc (v := x3 + 1) (lv' := [(3, .int (x3 + 1)), (2, .int 0), (0, .ref (q 0)), (1, .int x1), (4, .int x4), (5, .int x5)]) hx hb dX7_hasAll_89 hl (k := 3) rfl xi_1 (by decide) rfl (fun ls hl => ?_)
        refine lv_goto (tgt := 4) hx hb dX7_hasAll_92 (by decide) ?_
        exact hK4 x1 0 (x3 + 1) S _ _ _ hf hw (lv_sub hl [2, 3, 1, 0] rfl)
      · have hf := x_neg hc hf
        refine lv_iconst (v := 1) hx hb dX7_hasAll_83 (by decide) ?_
        refine lv_goto (tgt := 88) hx hb dX7_hasAll_84 (by decide) ?_
        refine lv_istore_n (lv' := [(2, .int 1), (0, .ref (q 0)), (1, .int x1), (3, .int x3), (4, .int x4), (5, .int x5)]) hx hb dX7_hasAll_88 rfl hl (by decide) rfl (fun ls hl => ?_)
        refine lv_iinc (v := x3 + 1) (lv' := [(3, .int (x3 + 1)), (2, .int 1), (0, .ref (q 0)), (1, .int x1), (4, .int x4), (5, .int x5)]) hx hb dX7_hasAll_89 hl (k := 3) rfl xi_1 (by decide) rfl (fun ls hl => ?_)
        refine lv_goto (tgt := 4) hx hb dX7_hasAll_92 (by decide) ?_
        exact hK4 x1 1 (x3 + 1) S _ _ _ hf hw (lv_sub hl [2, 3, 1, 0] rfl)
  · have hf := x_neg hc hf
    refine lv_iload hx hb dX7_hasAll_21 (lv_at hl 4 rfl) ?_
    refine lv_aload_n hx hb dX7_hasAll_23 rfl (lv_at hl 0 rfl) ?_
    refine x_get B hw (Tb := TX7) inX7 0 (by decide) rfl rfl 18 (by decide) u708 (fun _ h => h) rfl dX7_hasAll_24 ?_
    refine lv_iload hx hb dX7_hasAll_27 (lv_at hl 5 rfl) ?_
    refine x_iald B hw 11 (by decide) rfl dX7_hasAll_29 hf (fun v2 hf => ?_)
    refine lv_bipush (v := 8) hx hb dX7_hasAll_30 (by decide) ?_
    refine lv_icmp_ge (tgt := 54) hx hb dX7_hasAll_32 (by decide) (fun hc => ?_) (fun hc => ?_)
    · have hf := x_pos hc hf
      refine lv_iconst (v := 0) hx hb dX7_hasAll_54 (by decide) ?_
      refine lv_iadd hx hb dX7_hasAll_55 ?_
      refine x_leti hf (fun v3 hf => ?_)
      refine lv_istore (lv' := [(4, .int v3), (0, .ref (q 0)), (1, .int x1), (2, .int x2), (3, .int x3), (5, .int x5)]) hx hb dX7_hasAll_56 hl (by decide) rfl (fun ls hl => ?_)
      refine lv_iinc (v := x5 + 1) (lv' := [(5, .int (x5 + 1)), (4, .int v3), (0, .ref (q 0)), (1, .int x1), (2, .int x2), (3, .int x3)]) hx hb dX7_hasAll_58 hl (k := 5) rfl xi_1 (by decide) rfl (fun ls hl => ?_)
      refine lv_goto (tgt := 15) hx hb dX7_hasAll_61 (by decide) ?_
      exact hK15 x1 x2 x3 v3 (x5 + 1) S _ _ _ hf hw (lv_sub hl [2, 3, 4, 5, 1, 0] rfl)
    · have hf := x_neg hc hf
      refine lv_aload_n hx hb dX7_hasAll_35 rfl (lv_at hl 0 rfl) ?_
      refine x_get B hw (Tb := TX7) inX7 0 (by decide) rfl rfl 6 (by decide) u696 (fun _ h => h) rfl dX7_hasAll_36 ?_
      refine lv_iconst (v := 5) hx hb dX7_hasAll_39 (by decide) ?_
      refine lv_aload_n hx hb dX7_hasAll_40 rfl (lv_at hl 0 rfl) ?_
      refine x_get B hw (Tb := TX7) inX7 0 (by decide) rfl rfl 18 (by decide) u708 (fun _ h => h) rfl dX7_hasAll_41 ?_
      refine lv_iload hx hb dX7_hasAll_44 (lv_at hl 5 rfl) ?_
      refine x_iald B hw 11 (by decide) rfl dX7_hasAll_46 hf (fun v4 hf => ?_)
      refine lv_imul hx hb dX7_hasAll_47 ?_
      refine lv_iload_n hx hb dX7_hasAll_48 rfl (lv_at hl 3 rfl) ?_
      refine lv_iadd hx hb dX7_hasAll_49 ?_
      refine x_iald B hw 5 (by decide) rfl dX7_hasAll_50 hf (fun v5 hf => ?_)
      refine lv_goto (tgt := 55) hx hb dX7_hasAll_51 (by decide) ?_
      refine lv_iadd hx hb dX7_hasAll_55 ?_
      refine x_leti hf (fun v6 hf => ?_)
      refine lv_istore (lv' := [(4, .int v6), (0, .ref (q 0)), (1, .int x1), (2, .int x2), (3, .int x3), (5, .int x5)]) hx hb dX7_hasAll_56 hl (by decide) rfl (fun ls hl => ?_)
      refine lv_iinc (v := x5 + 1) (lv' := [(5, .int (x5 + 1)), (4, .int v6), (0, .ref (q 0)), (1, .int x1), (2, .int x2), (3, .int x3)]) hx hb dX7_hasAll_58 hl (k := 5) rfl xi_1 (by decide) rfl (fun ls hl => ?_)
      refine lv_goto (tgt := 15) hx hb dX7_hasAll_61 (by decide) ?_
      exact hK15 x1 x2 x3 v6 (x5 + 1) S _ _ _ hf hw (lv_sub hl [2, 3, 4, 5, 1, 0] rfl)

theorem jMod_hasAll_h15_ok (B : XB p s m args meth c A cX7_hasAll 6 (some .boolean) RX7) {SF : St} {r : Int32} (K4 : Int32 → Int32 → Int32 → St → Option (Int32 × St)) (hK4 : ∀ (x1 : Int32) (x2 : Int32) (x3 : Int32) (S : St) (H : Heap) (locs : List Loc) (ls : Array Slot), K4 x1 x2 x3 S = some (r, SF) → Xw D 17 (cellM T q) q T ExM A s S H locs → lv_has ls 6 [(0, .ref (q 0)), (1, .int x1), (2, .int x2), (3, .int x3)] → XG p l e ({ frames := 0, cells := 0, slots := 0, locals := 0 }) s m args below meth c D 17 (cellM T q) q T A SF (some (.int r)) H locs 4 ls []) : ∀ (n : Nat) (x1 : Int32) (x2 : Int32) (x3 : Int32) (x4 : Int32) (x5 : Int32) (S : St) (H : Heap) (locs : List Loc) (ls : Array Slot), jMod_hasAll_h15 K4 n x1 x2 x3 x4 x5 S = some (r, SF) → Xw D 17 (cellM T q) q T ExM A s S H locs → lv_has ls 6 [(0, .ref (q 0)), (1, .int x1), (2, .int x2), (3, .int x3), (4, .int x4), (5, .int x5)] → XG p l e ({ frames := 0, cells := 0, slots := 0, locals := 0 }) s m args below meth c D 17 (cellM T q) q T A SF (some (.int r)) H locs 15 ls [] := by
  intro n
  induction n with
  | zero =>
    intro x1 x2 x3 x4 x5 S H locs ls hf hw hl
    rw [jMod_hasAll_h15] at hf
    cases hf
  | succ n ih =>
    intro x1 x2 x3 x4 x5 S H locs ls hf hw hl
    rw [jMod_hasAll_h15] at hf
    exact jMod_hasAll_b15_ok B K4 hK4 (jMod_hasAll_h15 K4 n) ih x1 x2 x3 x4 x5 S hf hw hl

set_option maxHeartbeats 4000000 in
theorem jMod_hasAll_b4_ok (B : XB p s m args meth c A cX7_hasAll 6 (some .boolean) RX7) {SF : St} {r : Int32} (K4 : Int32 → Int32 → Int32 → St → Option (Int32 × St)) (hK4 : ∀ (x1 : Int32) (x2 : Int32) (x3 : Int32) (S : St) (H : Heap) (locs : List Loc) (ls : Array Slot), K4 x1 x2 x3 S = some (r, SF) → Xw D 17 (cellM T q) q T ExM A s S H locs → lv_has ls 6 [(0, .ref (q 0)), (1, .int x1), (2, .int x2), (3, .int x3)] → XG p l e ({ frames := 0, cells := 0, slots := 0, locals := 0 }) s m args below meth c D 17 (cellM T q) q T A SF (some (.int r)) H locs 4 ls [])  (x1 : Int32) (x2 : Int32) (x3 : Int32) (S : St) {H : Heap} {locs : List Loc} {ls : Array Slot} (hf : jMod_hasAll_b4 K4 x1 x2 x3 S = some (r, SF)) (hw : Xw D 17 (cellM T q) q T ExM A s S H locs) (hl : lv_has ls 6 [(0, .ref (q 0)), (1, .int x1), (2, .int x2), (3, .int x3)]) : XG p l e ({ frames := 0, cells := 0, slots := 0, locals := 0 }) s m args below meth c D 17 (cellM T q) q T A SF (some (.int r)) H locs 4 ls [] := by
  unfold jMod_hasAll_b4 at hf
  obtain ⟨hx, hb, hr, hml, hown, hts, hlk, hA⟩ := id B
  refine lv_iload_n hx hb dX7_hasAll_4 rfl (lv_at hl 3 rfl) ?_
  refine lv_iconst (v := 5) hx hb dX7_hasAll_5 (by decide) ?_
  refine lv_icmp_ge (tgt := 95) hx hb dX7_hasAll_6 (by decide) (fun hc => ?_) (fun hc => ?_)
  · have hf := x_pos hc hf
    refine lv_iload_n hx hb dX7_hasAll_95 rfl (lv_at hl 2 rfl) ?_
    exact x_zret B hw hf dX7_hasAll_96
  · have hf := x_neg hc hf
    refine lv_iconst (v := 0) hx hb dX7_hasAll_9 (by decide) ?_
    refine lv_istore (lv' := [(4, .int 0), (0, .ref (q 0)), (1, .int x1), (2, .int x2), (3, .int x3)]) hx hb dX7_hasAll_10 hl (by decide) rfl (fun ls hl => ?_)
    refine lv_iconst (v := 0) hx hb dX7_hasAll_12 (by decide) ?_
    refine lv_istore (lv' := [(5, .int 0), (4, .int 0), (0, .ref (q 0)), (1, .int x1), (2, .int x2), (3, .int x3)]) hx hb dX7_hasAll_13 hl (by decide) rfl (fun ls hl => ?_)
    exact jMod_hasAll_h15_ok B K4 hK4 FU x1 x2 x3 0 0 S _ _ _ hf hw (lv_sub hl [2, 3, 4, 5, 1, 0] rfl)

theorem jMod_hasAll_h4_ok (B : XB p s m args meth c A cX7_hasAll 6 (some .boolean) RX7) {SF : St} {r : Int32} : ∀ (n : Nat) (x1 : Int32) (x2 : Int32) (x3 : Int32) (S : St) (H : Heap) (locs : List Loc) (ls : Array Slot), jMod_hasAll_h4 n x1 x2 x3 S = some (r, SF) → Xw D 17 (cellM T q) q T ExM A s S H locs → lv_has ls 6 [(0, .ref (q 0)), (1, .int x1), (2, .int x2), (3, .int x3)] → XG p l e ({ frames := 0, cells := 0, slots := 0, locals := 0 }) s m args below meth c D 17 (cellM T q) q T A SF (some (.int r)) H locs 4 ls [] := by
  intro n
  induction n with
  | zero =>
    intro x1 x2 x3 S H locs ls hf hw hl
    rw [jMod_hasAll_h4] at hf
    cases hf
  | succ n ih =>
    intro x1 x2 x3 S H locs ls hf hw hl
    rw [jMod_hasAll_h4] at hf
    exact jMod_hasAll_b4_ok B (jMod_hasAll_h4 n) ih x1 x2 x3 S hf hw hl

set_option maxHeartbeats 4000000 in
theorem jMod_hasAll_b0_ok (B : XB p s m args meth c A cX7_hasAll 6 (some .boolean) RX7) {SF : St} {r : Int32}  (x1 : Int32) (S : St) {H : Heap} {locs : List Loc} {ls : Array Slot} (hf : jMod_hasAll x1 S = some (r, SF)) (hw : Xw D 17 (cellM T q) q T ExM A s S H locs) (hl : lv_has ls 6 [(0, .ref (q 0)), (1, .int x1)]) : XG p l e ({ frames := 0, cells := 0, slots := 0, locals := 0 }) s m args below meth c D 17 (cellM T q) q T A SF (some (.int r)) H locs 0 ls [] := by
  unfold jMod_hasAll at hf
  obtain ⟨hx, hb, hr, hml, hown, hts, hlk, hA⟩ := id B
  refine lv_iconst (v := 1) hx hb dX7_hasAll_0 (by decide) ?_
  refine lv_istore_n (lv' := [(2, .int 1), (0, .ref (q 0)), (1, .int x1)]) hx hb dX7_hasAll_1 rfl hl (by decide) rfl (fun ls hl => ?_)
  refine lv_iconst (v := 0) hx hb dX7_hasAll_2 (by decide) ?_
  refine lv_istore_n (lv' := [(3, .int 0), (2, .int 1), (0, .ref (q 0)), (1, .int x1)]) hx hb dX7_hasAll_3 rfl hl (by decide) rfl (fun ls hl => ?_)
  exact jMod_hasAll_h4_ok B FU x1 1 0 S _ _ _ hf hw (lv_sub hl [2, 3, 1, 0] rfl)

set_option maxHeartbeats 4000000 in
theorem jMod_hasAll_ok {x1 : Int32} {S SF : St} {r : Int32} (hf : jMod_hasAll x1 S = some (r, SF)) : XMet l D 17 (cellM T q) q T ExM yX7_hasAll cX7_hasAll 6 (some .boolean) ({ frames := 0, cells := 0, slots := 0, locals := 0 }) [.ref (q 0), .int x1] S (some (.int r)) SF := by
  refine x_enter (own := RX7) (by decide +kernel) rfl (Nat.le_of_ble_eq_true rfl) (fun p e s m below meth c A B ls hw hl0 => ?_)
  have hl : lv_has ls 6 [(0, .ref (q 0)), (1, .int x1)] := hl0
  exact jMod_hasAll_b0_ok B x1 S hf hw hl
end
