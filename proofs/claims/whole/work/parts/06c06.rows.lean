section
variable {p : Program} {l : Launch} {e : Env} {s : State} {m : MethodId} {args : Array Value} {below : List Frame} {meth : Method} {c : Code} {D : va_G} {q aK aV : Nat → Nat} {T : Nat → ClassId} {A : Nat → Prop}
set_option maxHeartbeats 4000000 in
theorem jSmoke_code_b103_ok (B : XB p s m args meth c A cX6_code 8 (some .int) RX6) {SF : St} {r : Int32} (K44 : Int32 → Int32 → Int32 → Int32 → Int32 → Int32 → St → Option (Int32 × St)) (hK44 : ∀ (x1 : Int32) (x2 : Int32) (x3 : Int32) (x4 : Int32) (x5 : Int32) (x6 : Int32) (S : St) (H : Heap) (locs : List Loc) (ls : Array Slot), K44 x1 x2 x3 x4 x5 x6 S = some (r, SF) → Xw D 40 (cellC T q) q T (ExC aK aV) A s S H locs → lv_has ls 8 [(0, .ref (q 0)), (1, .int x1), (2, .int x2), (3, .int x3), (4, .int x4), (5, .int x5), (6, .int x6)] → XG p l e ({ frames := 3, cells := 0, slots := 0, locals := 70 }) s m args below meth c D 40 (cellC T q) q T A SF (some (.int r)) H locs 44 ls [])  (x1 : Int32) (x2 : Int32) (x3 : Int32) (x4 : Int32) (x5 : Int32) (x6 : Int32) (x7 : Int32) (S : St) {H : Heap} {locs : List Loc} {ls : Array Slot} (hf : jSmoke_code_b103 K44 x1 x2 x3 x4 x5 x6 x7 S = some (r, SF)) (hw : Xw D 40 (cellC T q) q T (ExC aK aV) A s S H locs) (hl : lv_has ls 8 [(0, .ref (q 0)), (1, .int x1), (2, .int x2), (3, .int x3), (4, .int x4), (5, .int x5), (6, .int x6), (7, .int x7)]) : XG p l e ({ frames := 3, cells := 0, slots := 0, locals := 70 }) s m args below meth c D 40 (cellC T q) q T A SF (some (.int r)) H locs 103 ls [] := by
  unfold jSmoke_code_b103 at hf
  obtain ⟨hx, hb, hr, hml, hown, hts, hlk, hA⟩ := id B
  refine lv_iload hx hb dX6_code_103 (lv_at hl 5 rfl) ?_
  refine lv_iload hx hb dX6_code_105 (lv_at hl 7 rfl) ?_
  refine va_mmax hx hb (hml.trans hl.1.symm) hown (hts _ u599) (hts _ u600) (hts _ u50) (hts _ u601) (Nat.le_of_ble_eq_true rfl) (Nat.le_of_ble_eq_true rfl) (Nat.zero_le _) (Nat.zero_le _) dX6_code_107 ?_
  refine x_leti hf (fun v7 hf => ?_)
  refine lv_istore (lv' := [(5, .int v7), (0, .ref (q 0)), (1, .int x1), (2, .int x2), (3, .int x3), (4, .int x4), (6, .int x6), (7, .int x7)]) hx hb dX6_code_110 hl (by decide) rfl (fun ls hl => ?_)
  refine lv_iinc (v := x6 + 1) (lv' := [(6, .int (x6 + 1)), (5, .int v7), (0, .ref (q 0)), (1, .int x1), (2, .int x2), (3, .int x3), (4, .int x4), (7, .int x7)]) hx hb dX6_code_112 hl (k := 6) rfl xi_1 (by decide) rfl (fun ls hl => ?_)
  refine lv_goto (tgt := 44) hx hb dX6_code_115 (by decide) ?_
  exact hK44 x1 x2 x3 x4 v7 (x6 + 1) S _ _ _ hf hw (lv_sub hl [2, 3, 4, 5, 6, 1, 0] rfl)

set_option maxHeartbeats 4000000 in
theorem jSmoke_code_b44_ok (B : XB p s m args meth c A cX6_code 8 (some .int) RX6) {SF : St} {r : Int32} (K44 : Int32 → Int32 → Int32 → Int32 → Int32 → Int32 → St → Option (Int32 × St)) (hK44 : ∀ (x1 : Int32) (x2 : Int32) (x3 : Int32) (x4 : Int32) (x5 : Int32) (x6 : Int32) (S : St) (H : Heap) (locs : List Loc) (ls : Array Slot), K44 x1 x2 x3 x4 x5 x6 S = some (r, SF) → Xw D 40 (cellC T q) q T (ExC aK aV) A s S H locs → lv_has ls 8 [(0, .ref (q 0)), (1, .int x1), (2, .int x2), (3, .int x3), (4, .int x4), (5, .int x5), (6, .int x6)] → XG p l e ({ frames := 3, cells := 0, slots := 0, locals := 70 }) s m args below meth c D 40 (cellC T q) q T A SF (some (.int r)) H locs 44 ls [])  (x1 : Int32) (x2 : Int32) (x3 : Int32) (x4 : Int32) (x5 : Int32) (x6 : Int32) (S : St) {H : Heap} {locs : List Loc} {ls : Array Slot} (hf : jSmoke_code_b44 K44 x1 x2 x3 x4 x5 x6 S = some (r, SF)) (hw : Xw D 40 (cellC T q) q T (ExC aK aV) A s S H locs) (hl : lv_has ls 8 [(0, .ref (q 0)), (1, .int x1), (2, .int x2), (3, .int x3), (4, .int x4), (5, .int x5), (6, .int x6)]) : XG p l e ({ frames := 3, cells := 0, slots := 0, locals := 70 }) s m args below meth c D 40 (cellC T q) q T A SF (some (.int r)) H locs 44 ls [] := by
  unfold jSmoke_code_b44 at hf
  obtain ⟨hx, hb, hr, hml, hown, hts, hlk, hA⟩ := id B
  refine lv_iload hx hb dX6_code_44 (lv_at hl 6 rfl) ?_
  refine lv_iconst (v := 1) hx hb dX6_code_46 (by decide) ?_
  refine lv_aload_n hx hb dX6_code_47 rfl (lv_at hl 0 rfl) ?_
  refine x_get B hw (Tb := TX6) inX6 0 (by decide) rfl rfl 2 (by decide) u232 (fun _ h => h) rfl dX6_code_48 ?_
  refine x_get B hw (Tb := TX1) inX1 14 (by decide) rfl rfl 4 (by decide) u115 (fun _ h => h) rfl dX6_code_51 ?_
  refine lv_ishl hx hb dX6_code_54 ?_
  refine lv_icmp_ge (tgt := 118) hx hb dX6_code_55 (by decide) (fun hc => ?_) (fun hc => ?_)
  · have hf := x_pos hc hf
    refine lv_iload_n hx hb dX6_code_118 rfl (lv_at hl 3 rfl) ?_
    refine lv_if_ne (tgt := 127) hx hb dX6_code_119 (by decide) (fun hc => ?_) (fun hc => ?_)
    · have hf := x_neg hc hf
      refine lv_iload hx hb dX6_code_127 (lv_at hl 5 rfl) ?_
      exact x_iret B hw hf dX6_code_129
    · have hf := x_pos hc hf
      refine lv_bipush (v := (-9)) hx hb dX6_code_122 (by decide) ?_
      refine lv_goto (tgt := 129) hx hb dX6_code_124 (by decide) ?_
      exact x_iret B hw hf dX6_code_129
  · have hf := x_neg hc hf
    refine lv_iload hx hb dX6_code_58 (lv_at hl 6 rfl) ?_
    obtain ⟨v4, S3, hc, hf⟩ := x_bd_some hf
    refine x_callS B ExC_ok hw (As := [.int x6]) (rest := []) (st1 := [.int v4]) (jInt_bitCount_ok hc) u586 u514 u51 u515 hdJ6_bitCount_0f7a4 rfl ⟨Nat.le_of_ble_eq_true rfl, Nat.le_of_ble_eq_true rfl⟩ ⟨rfl, rfl⟩ hl.1 (Nat.le_of_ble_eq_true rfl) dX6_code_60 (fun H locs hw => ?_) rfl rfl
    refine lv_istore (lv' := [(7, .int v4), (0, .ref (q 0)), (1, .int x1), (2, .int x2), (3, .int x3), (4, .int x4), (5, .int x5), (6, .int x6)]) hx hb dX6_code_63 hl (by decide) rfl (fun ls hl => ?_)
    refine lv_iload hx hb dX6_code_65 (lv_at hl 0 rfl) ?_
    refine lv_iload hx hb dX6_code_67 (lv_at hl 5 rfl) ?_
    refine lv_icmp_gt (tgt := 112) hx hb dX6_code_69 (by decide) (fun hc => ?_) (fun hc => ?_)
    · have hf := x_pos hc hf
      refine lv_iinc (v := x6 + 1) (lv' := [(6, .int (x6 + 1)), (7, .int v4), (0, .ref (q 0)), (1, .int x1), (2, .int x2), (3, .int x3), (4, .int x4), (5, .int x5)]) hx hb dX6_code_112 hl (k := 7) rfl xi_1 (by decide) rfl (fun ls hl => ?_)
      refine lv_goto (tgt := 44) hx hb dX6_code_115 (by decide) ?_
      exact hK44 x1 x2 x3 x4 x5 (x6 + 1) S3 _ _ _ hf hw (lv_sub hl [2, 3, 4, 5, 6, 7, 0] rfl)
    · have hf := x_neg hc hf
      refine lv_aload_n hx hb dX6_code_72 rfl (lv_at hl 1 rfl) ?_
      refine x_get B hw (Tb := TX6) inX6 0 (by decide) rfl rfl 2 (by decide) u232 (fun _ h => h) rfl dX6_code_73 ?_
      refine lv_iload hx hb dX6_code_76 (lv_at hl 7 rfl) ?_
      refine lv_iload_n hx hb dX6_code_78 rfl (lv_at hl 2 rfl) ?_
      refine lv_iload_n hx hb dX6_code_79 rfl (lv_at hl 3 rfl) ?_
      obtain ⟨v6, S5, hc, hf⟩ := x_bd_some hf
      refine x_callV B ExC_ok hw 14 (by decide) rfl rfl (As := [.int x6, .int x1, .int x2]) (rest := []) (st1 := [.int v6]) (jMenu_tellsApart_ok hc) u587 u588 u589 u41 u590 hdX1_tellsApart rfl ⟨Nat.le_of_ble_eq_true rfl, Nat.le_of_ble_eq_true rfl⟩ ⟨rfl, rfl⟩ hl.1 (Nat.le_of_ble_eq_true rfl) dX6_code_80 (fun H locs hw => ?_) rfl rfl
      refine lv_if_ne (tgt := 89) hx hb dX6_code_83 (by decide) (fun hc => ?_) (fun hc => ?_)
      · have hf := x_neg hc hf
        refine lv_iload_n hx hb dX6_code_89 rfl (lv_at hl 4 rfl) ?_
        refine lv_if_ne (tgt := 103) hx hb dX6_code_90 (by decide) (fun hc => ?_) (fun hc => ?_)
        · have hf := x_neg hc hf
          exact jSmoke_code_b103_ok B K44 hK44 x1 x2 x3 x4 x5 x6 v4 S5 hf hw (lv_sub hl [1, 2, 3, 4, 5, 6, 7, 0] rfl)
        · have hf := x_pos hc hf
          refine lv_iload hx hb dX6_code_93 (lv_at hl 0 rfl) ?_
          refine lv_iload hx hb dX6_code_95 (lv_at hl 5 rfl) ?_
          refine lv_icmp_ne (tgt := 103) hx hb dX6_code_97 (by decide) (fun hc => ?_) (fun hc => ?_)
          · have hf := x_neg hc hf
            exact jSmoke_code_b103_ok B K44 hK44 x1 x2 x3 x4 x5 x6 v4 S5 hf hw (lv_sub hl [1, 2, 3, 4, 5, 6, 7, 0] rfl)
          · have hf := x_pos hc hf
            refine lv_iload hx hb dX6_code_100 (lv_at hl 7 rfl) ?_
            exact x_iret B hw hf dX6_code_102
      · have hf := x_pos hc hf
        refine lv_goto (tgt := 112) hx hb dX6_code_86 (by decide) ?_
        refine lv_iinc (v := x6 + 1) (lv' := [(6, .int (x6 + 1)), (7, .int v4), (0, .ref (q 0)), (1, .int x1), (2, .int x2), (3, .int x3), (4, .int x4), (5, .int x5)]) hx hb dX6_code_112 hl (k := 7) rfl xi_1 (by decide) rfl (fun ls hl => ?_)
        refine lv_goto (tgt := 44) hx hb dX6_code_115 (by decide) ?_
        exact hK44 x1 x2 x3 x4 x5 (x6 + 1) S5 _ _ _ hf hw (lv_sub hl [2, 3, 4, 5, 6, 7, 0] rfl)

theorem jSmoke_code_h44_ok (B : XB p s m args meth c A cX6_code 8 (some .int) RX6) {SF : St} {r : Int32} : ∀ (n : Nat) (x1 : Int32) (x2 : Int32) (x3 : Int32) (x4 : Int32) (x5 : Int32) (x6 : Int32) (S : St) (H : Heap) (locs : List Loc) (ls : Array Slot), jSmoke_code_h44 n x1 x2 x3 x4 x5 x6 S = some (r, SF) → Xw D 40 (cellC T q) q T (ExC aK aV) A s S H locs → lv_has ls 8 [(0, .ref (q 0)), (1, .int x1), (2, .int x2), (3, .int x3), (4, .int x4), (5, .int x5), (6, .int x6)] → XG p l e ({ frames := 3, cells := 0, slots := 0, locals := 70 }) s m args below meth c D 40 (cellC T q) q T A SF (some (.int r)) H locs 44 ls [] := by
  intro n
  induction n with
  | zero =>
    intro x1 x2 x3 x4 x5 x6 S H locs ls hf hw hl
    rw [jSmoke_code_h44] at hf
    cases hf
  | succ n ih =>
    intro x1 x2 x3 x4 x5 x6 S H locs ls hf hw hl
    rw [jSmoke_code_h44] at hf
    exact jSmoke_code_b44_ok B (jSmoke_code_h44 n) ih x1 x2 x3 x4 x5 x6 S hf hw hl

set_option maxHeartbeats 4000000 in
theorem jSmoke_code_b0_ok (B : XB p s m args meth c A cX6_code 8 (some .int) RX6) {SF : St} {r : Int32}  (x1 : Int32) (x2 : Int32) (x3 : Int32) (S : St) {H : Heap} {locs : List Loc} {ls : Array Slot} (hf : jSmoke_code x1 x2 x3 S = some (r, SF)) (hw : Xw D 40 (cellC T q) q T (ExC aK aV) A s S H locs) (hl : lv_has ls 8 [(0, .ref (q 0)), (1, .int x1), (2, .int x2), (3, .int x3)]) : XG p l e ({ frames := 3, cells := 0, slots := 0, locals := 70 }) s m args below meth c D 40 (cellC T q) q T A SF (some (.int r)) H locs 0 ls [] := by
  unfold jSmoke_code at hf
  obtain ⟨hx, hb, hr, hml, hown, hts, hlk, hA⟩ := id B
  refine lv_iload_n hx hb dX6_code_0 rfl (lv_at hl 1 rfl) ?_
  refine lv_if_lt (tgt := 30) hx hb dX6_code_1 (by decide) (fun hc => ?_) (fun hc => ?_)
  · have hf := x_pos hc hf
    refine lv_iconst (v := (-1)) hx hb dX6_code_30 (by decide) ?_
    exact x_iret B hw hf dX6_code_31
  · have hf := x_neg hc hf
    refine lv_iload_n hx hb dX6_code_4 rfl (lv_at hl 1 rfl) ?_
    refine lv_sipush (v := 256) hx hb dX6_code_5 (by decide) ?_
    refine lv_icmp_ge (tgt := 30) hx hb dX6_code_8 (by decide) (fun hc => ?_) (fun hc => ?_)
    · have hf := x_pos hc hf
      refine lv_iconst (v := (-1)) hx hb dX6_code_30 (by decide) ?_
      exact x_iret B hw hf dX6_code_31
    · have hf := x_neg hc hf
      refine lv_iload_n hx hb dX6_code_11 rfl (lv_at hl 2 rfl) ?_
      refine lv_iconst (v := 1) hx hb dX6_code_12 (by decide) ?_
      refine lv_icmp_lt (tgt := 30) hx hb dX6_code_13 (by decide) (fun hc => ?_) (fun hc => ?_)
      · have hf := x_pos hc hf
        refine lv_iconst (v := (-1)) hx hb dX6_code_30 (by decide) ?_
        exact x_iret B hw hf dX6_code_31
      · have hf := x_neg hc hf
        refine lv_iload_n hx hb dX6_code_16 rfl (lv_at hl 2 rfl) ?_
        refine lv_iconst (v := 3) hx hb dX6_code_17 (by decide) ?_
        refine lv_icmp_gt (tgt := 30) hx hb dX6_code_18 (by decide) (fun hc => ?_) (fun hc => ?_)
        · have hf := x_pos hc hf
          refine lv_iconst (v := (-1)) hx hb dX6_code_30 (by decide) ?_
          exact x_iret B hw hf dX6_code_31
        · have hf := x_neg hc hf
          refine lv_iload_n hx hb dX6_code_21 rfl (lv_at hl 3 rfl) ?_
          refine lv_if_lt (tgt := 30) hx hb dX6_code_22 (by decide) (fun hc => ?_) (fun hc => ?_)
          · have hf := x_pos hc hf
            refine lv_iconst (v := (-1)) hx hb dX6_code_30 (by decide) ?_
            exact x_iret B hw hf dX6_code_31
          · have hf := x_neg hc hf
            refine lv_iload_n hx hb dX6_code_25 rfl (lv_at hl 3 rfl) ?_
            refine lv_iconst (v := 1) hx hb dX6_code_26 (by decide) ?_
            refine lv_icmp_le (tgt := 32) hx hb dX6_code_27 (by decide) (fun hc => ?_) (fun hc => ?_)
            · have hf := x_pos hc hf
              refine lv_iload_n hx hb dX6_code_32 rfl (lv_at hl 1 rfl) ?_
              obtain ⟨v2, S1, hc, hf⟩ := x_bd_some hf
              refine x_callS B ExC_ok hw (As := [.int x1]) (rest := []) (st1 := [.int v2]) (jInt_bitCount_ok hc) u586 u514 u51 u515 hdJ6_bitCount_0f7a4 rfl ⟨Nat.le_of_ble_eq_true rfl, Nat.le_of_ble_eq_true rfl⟩ ⟨rfl, rfl⟩ hl.1 (Nat.le_of_ble_eq_true rfl) dX6_code_33 (fun H locs hw => ?_) rfl rfl
              refine lv_istore (lv' := [(4, .int v2), (0, .ref (q 0)), (1, .int x1), (2, .int x2), (3, .int x3)]) hx hb dX6_code_36 hl (by decide) rfl (fun ls hl => ?_)
              refine lv_iconst (v := 0) hx hb dX6_code_38 (by decide) ?_
              refine lv_istore (lv' := [(5, .int 0), (4, .int v2), (0, .ref (q 0)), (1, .int x1), (2, .int x2), (3, .int x3)]) hx hb dX6_code_39 hl (by decide) rfl (fun ls hl => ?_)
              refine lv_iconst (v := 0) hx hb dX6_code_41 (by decide) ?_
              refine lv_istore (lv' := [(6, .int 0), (5, .int 0), (4, .int v2), (0, .ref (q 0)), (1, .int x1), (2, .int x2), (3, .int x3)]) hx hb dX6_code_42 hl (by decide) rfl (fun ls hl => ?_)
              exact jSmoke_code_h44_ok B FU x1 x2 x3 v2 0 0 S1 _ _ _ hf hw (lv_sub hl [3, 4, 5, 6, 2, 1, 0] rfl)
            · have hf := x_neg hc hf
              refine lv_iconst (v := (-1)) hx hb dX6_code_30 (by decide) ?_
              exact x_iret B hw hf dX6_code_31

set_option maxHeartbeats 4000000 in
theorem jSmoke_code_ok {x1 : Int32} {x2 : Int32} {x3 : Int32} {S SF : St} {r : Int32} (hf : jSmoke_code x1 x2 x3 S = some (r, SF)) : XMet l D 40 (cellC T q) q T (ExC aK aV) yX6_code cX6_code 8 (some .int) ({ frames := 3, cells := 0, slots := 0, locals := 70 }) [.ref (q 0), .int x1, .int x2, .int x3] S (some (.int r)) SF := by
  refine x_enter (own := RX6) (by decide +kernel) rfl (Nat.le_of_ble_eq_true rfl) (fun p e s m below meth c A B ls hw hl0 => ?_)
  have hl : lv_has ls 8 [(0, .ref (q 0)), (1, .int x1), (2, .int x2), (3, .int x3)] := hl0
  exact jSmoke_code_b0_ok B x1 x2 x3 S hf hw hl

set_option maxHeartbeats 4000000 in
theorem jMenu_smokeOfAll_b4_ok (B : XB p s m args meth c A cX1_smokeOfAll 4 (some .int) RX1) {SF : St} {r : Int32} (K4 : Int32 → Int32 → Int32 → St → Option (Int32 × St)) (hK4 : ∀ (x1 : Int32) (x2 : Int32) (x3 : Int32) (S : St) (H : Heap) (locs : List Loc) (ls : Array Slot), K4 x1 x2 x3 S = some (r, SF) → Xw D 40 (cellC T q) q T (ExC aK aV) A s S H locs → lv_has ls 4 [(0, .ref (q 14)), (1, .int x1), (2, .int x2), (3, .int x3)] → XG p l e ({ frames := 1, cells := 0, slots := 0, locals := 21 }) s m args below meth c D 40 (cellC T q) q T A SF (some (.int r)) H locs 4 ls [])  (x1 : Int32) (x2 : Int32) (x3 : Int32) (S : St) {H : Heap} {locs : List Loc} {ls : Array Slot} (hf : jMenu_smokeOfAll_b4 K4 x1 x2 x3 S = some (r, SF)) (hw : Xw D 40 (cellC T q) q T (ExC aK aV) A s S H locs) (hl : lv_has ls 4 [(0, .ref (q 14)), (1, .int x1), (2, .int x2), (3, .int x3)]) : XG p l e ({ frames := 1, cells := 0, slots := 0, locals := 21 }) s m args below meth c D 40 (cellC T q) q T A SF (some (.int r)) H locs 4 ls [] := by
  unfold jMenu_smokeOfAll_b4 at hf
  obtain ⟨hx, hb, hr, hml, hown, hts, hlk, hA⟩ := id B
  refine lv_iload_n hx hb dX1_smokeOfAll_4 rfl (lv_at hl 3 rfl) ?_
  refine lv_aload_n hx hb dX1_smokeOfAll_5 rfl (lv_at hl 0 rfl) ?_
  refine x_get B hw (Tb := TX1) inX1 14 (by decide) rfl rfl 4 (by decide) u112 (fun _ h => h) rfl dX1_smokeOfAll_6 ?_
  refine lv_icmp_ge (tgt := 35) hx hb dX1_smokeOfAll_9 (by decide) (fun hc => ?_) (fun hc => ?_)
  · have hf := x_pos hc hf
    refine lv_iload_n hx hb dX1_smokeOfAll_35 rfl (lv_at hl 2 rfl) ?_
    exact x_iret B hw hf dX1_smokeOfAll_36
  · have hf := x_neg hc hf
    refine lv_iload_n hx hb dX1_smokeOfAll_12 rfl (lv_at hl 1 rfl) ?_
    refine lv_iload_n hx hb dX1_smokeOfAll_13 rfl (lv_at hl 3 rfl) ?_
    obtain ⟨v2, S1, hc, hf⟩ := x_bd_some hf
    refine x_callS B ExC_ok hw (As := [.int x1, .int x3]) (rest := []) (st1 := [.int v2]) (jMenu_holds_ok hc) u591 u592 u41 u593 hdX1_holds rfl ⟨Nat.le_of_ble_eq_true rfl, Nat.le_of_ble_eq_true rfl⟩ ⟨rfl, rfl⟩ hl.1 (Nat.le_of_ble_eq_true rfl) dX1_smokeOfAll_14 (fun H locs hw => ?_) rfl rfl
    refine lv_if_eq (tgt := 29) hx hb dX1_smokeOfAll_17 (by decide) (fun hc => ?_) (fun hc => ?_)
    · have hf := x_pos hc hf
      refine lv_iinc (v := x3 + 1) (lv' := [(3, .int (x3 + 1)), (0, .ref (q 14)), (1, .int x1), (2, .int x2)]) hx hb dX1_smokeOfAll_29 hl (k := 3) rfl xi_1 (by decide) rfl (fun ls hl => ?_)
      refine lv_goto (tgt := 4) hx hb dX1_smokeOfAll_32 (by decide) ?_
      exact hK4 x1 x2 (x3 + 1) S1 _ _ _ hf hw (lv_sub hl [1, 2, 3, 0] rfl)
    · have hf := x_neg hc hf
      refine lv_iload_n hx hb dX1_smokeOfAll_20 rfl (lv_at hl 2 rfl) ?_
      refine lv_aload_n hx hb dX1_smokeOfAll_21 rfl (lv_at hl 0 rfl) ?_
      refine x_get B hw (Tb := TX1) inX1 14 (by decide) rfl rfl 2 (by decide) u106 (fun _ h => h) rfl dX1_smokeOfAll_22 ?_
      refine lv_iload_n hx hb dX1_smokeOfAll_25 rfl (lv_at hl 3 rfl) ?_
      refine x_iald B hw 17 (by decide) rfl dX1_smokeOfAll_26 hf (fun v3 hf => ?_)
      refine lv_ior hx hb dX1_smokeOfAll_27 ?_
      refine x_leti hf (fun v4 hf => ?_)
      refine lv_istore_n (lv' := [(2, .int v4), (0, .ref (q 14)), (1, .int x1), (3, .int x3)]) hx hb dX1_smokeOfAll_28 rfl hl (by decide) rfl (fun ls hl => ?_)
      refine lv_iinc (v := x3 + 1) (lv' := [(3, .int (x3 + 1)), (2, .int v4), (0, .ref (q 14)), (1, .int x1)]) hx hb dX1_smokeOfAll_29 hl (k := 3) rfl xi_1 (by decide) rfl (fun ls hl => ?_)
      refine lv_goto (tgt := 4) hx hb dX1_smokeOfAll_32 (by decide) ?_
      exact hK4 x1 v4 (x3 + 1) S1 _ _ _ hf hw (lv_sub hl [2, 3, 1, 0] rfl)

theorem jMenu_smokeOfAll_h4_ok (B : XB p s m args meth c A cX1_smokeOfAll 4 (some .int) RX1) {SF : St} {r : Int32} : ∀ (n : Nat) (x1 : Int32) (x2 : Int32) (x3 : Int32) (S : St) (H : Heap) (locs : List Loc) (ls : Array Slot), jMenu_smokeOfAll_h4 n x1 x2 x3 S = some (r, SF) → Xw D 40 (cellC T q) q T (ExC aK aV) A s S H locs → lv_has ls 4 [(0, .ref (q 14)), (1, .int x1), (2, .int x2), (3, .int x3)] → XG p l e ({ frames := 1, cells := 0, slots := 0, locals := 21 }) s m args below meth c D 40 (cellC T q) q T A SF (some (.int r)) H locs 4 ls [] := by
  intro n
  induction n with
  | zero =>
    intro x1 x2 x3 S H locs ls hf hw hl
    rw [jMenu_smokeOfAll_h4] at hf
    cases hf
  | succ n ih =>
    intro x1 x2 x3 S H locs ls hf hw hl
    rw [jMenu_smokeOfAll_h4] at hf
    exact jMenu_smokeOfAll_b4_ok B (jMenu_smokeOfAll_h4 n) ih x1 x2 x3 S hf hw hl

set_option maxHeartbeats 4000000 in
theorem jMenu_smokeOfAll_b0_ok (B : XB p s m args meth c A cX1_smokeOfAll 4 (some .int) RX1) {SF : St} {r : Int32}  (x1 : Int32) (S : St) {H : Heap} {locs : List Loc} {ls : Array Slot} (hf : jMenu_smokeOfAll x1 S = some (r, SF)) (hw : Xw D 40 (cellC T q) q T (ExC aK aV) A s S H locs) (hl : lv_has ls 4 [(0, .ref (q 14)), (1, .int x1)]) : XG p l e ({ frames := 1, cells := 0, slots := 0, locals := 21 }) s m args below meth c D 40 (cellC T q) q T A SF (some (.int r)) H locs 0 ls [] := by
  unfold jMenu_smokeOfAll at hf
  obtain ⟨hx, hb, hr, hml, hown, hts, hlk, hA⟩ := id B
  refine lv_iconst (v := 0) hx hb dX1_smokeOfAll_0 (by decide) ?_
  refine lv_istore_n (lv' := [(2, .int 0), (0, .ref (q 14)), (1, .int x1)]) hx hb dX1_smokeOfAll_1 rfl hl (by decide) rfl (fun ls hl => ?_)
  refine lv_iconst (v := 0) hx hb dX1_smokeOfAll_2 (by decide) ?_
  refine lv_istore_n (lv' := [(3, .int 0), (2, .int 0), (0, .ref (q 14)), (1, .int x1)]) hx hb dX1_smokeOfAll_3 rfl hl (by decide) rfl (fun ls hl => ?_)
  exact jMenu_smokeOfAll_h4_ok B FU x1 0 0 S _ _ _ hf hw (lv_sub hl [2, 3, 1, 0] rfl)

set_option maxHeartbeats 4000000 in
theorem jMenu_smokeOfAll_ok {x1 : Int32} {S SF : St} {r : Int32} (hf : jMenu_smokeOfAll x1 S = some (r, SF)) : XMet l D 40 (cellC T q) q T (ExC aK aV) yX1_smokeOfAll cX1_smokeOfAll 4 (some .int) ({ frames := 1, cells := 0, slots := 0, locals := 21 }) [.ref (q 14), .int x1] S (some (.int r)) SF := by
  refine x_enter (own := RX1) (by decide +kernel) rfl (Nat.le_of_ble_eq_true rfl) (fun p e s m below meth c A B ls hw hl0 => ?_)
  have hl : lv_has ls 4 [(0, .ref (q 14)), (1, .int x1)] := hl0
  exact jMenu_smokeOfAll_b0_ok B x1 S hf hw hl

set_option maxHeartbeats 4000000 in
theorem jMenu_anySays_b2_ok (B : XB p s m args meth c A cX1_anySays 4 (some .boolean) RX1) {SF : St} {r : Int32} (K2 : Int32 → Int32 → Int32 → St → Option (Int32 × St)) (hK2 : ∀ (x1 : Int32) (x2 : Int32) (x3 : Int32) (S : St) (H : Heap) (locs : List Loc) (ls : Array Slot), K2 x1 x2 x3 S = some (r, SF) → Xw D 40 (cellC T q) q T (ExC aK aV) A s S H locs → lv_has ls 4 [(0, .ref (q 14)), (1, .int x1), (2, .int x2), (3, .int x3)] → XG p l e ({ frames := 1, cells := 0, slots := 0, locals := 21 }) s m args below meth c D 40 (cellC T q) q T A SF (some (.int r)) H locs 2 ls [])  (x1 : Int32) (x2 : Int32) (x3 : Int32) (S : St) {H : Heap} {locs : List Loc} {ls : Array Slot} (hf : jMenu_anySays_b2 K2 x1 x2 x3 S = some (r, SF)) (hw : Xw D 40 (cellC T q) q T (ExC aK aV) A s S H locs) (hl : lv_has ls 4 [(0, .ref (q 14)), (1, .int x1), (2, .int x2), (3, .int x3)]) : XG p l e ({ frames := 1, cells := 0, slots := 0, locals := 21 }) s m args below meth c D 40 (cellC T q) q T A SF (some (.int r)) H locs 2 ls [] := by
  unfold jMenu_anySays_b2 at hf
  obtain ⟨hx, hb, hr, hml, hown, hts, hlk, hA⟩ := id B
  refine lv_iload_n hx hb dX1_anySays_2 rfl (lv_at hl 3 rfl) ?_
  refine lv_aload_n hx hb dX1_anySays_3 rfl (lv_at hl 0 rfl) ?_
  refine x_get B hw (Tb := TX1) inX1 14 (by decide) rfl rfl 4 (by decide) u112 (fun _ h => h) rfl dX1_anySays_4 ?_
  refine lv_icmp_ge (tgt := 36) hx hb dX1_anySays_7 (by decide) (fun hc => ?_) (fun hc => ?_)
  · have hf := x_pos hc hf
    refine lv_iconst (v := 0) hx hb dX1_anySays_36 (by decide) ?_
    exact x_zret B hw hf dX1_anySays_37
  · have hf := x_neg hc hf
    refine lv_iload_n hx hb dX1_anySays_10 rfl (lv_at hl 1 rfl) ?_
    refine lv_iload_n hx hb dX1_anySays_11 rfl (lv_at hl 3 rfl) ?_
    obtain ⟨v2, S1, hc, hf⟩ := x_bd_some hf
    refine x_callS B ExC_ok hw (As := [.int x1, .int x3]) (rest := []) (st1 := [.int v2]) (jMenu_holds_ok hc) u591 u592 u41 u593 hdX1_holds rfl ⟨Nat.le_of_ble_eq_true rfl, Nat.le_of_ble_eq_true rfl⟩ ⟨rfl, rfl⟩ hl.1 (Nat.le_of_ble_eq_true rfl) dX1_anySays_12 (fun H locs hw => ?_) rfl rfl
    refine lv_if_eq (tgt := 30) hx hb dX1_anySays_15 (by decide) (fun hc => ?_) (fun hc => ?_)
    · have hf := x_pos hc hf
      refine lv_iinc (v := x3 + 1) (lv' := [(3, .int (x3 + 1)), (0, .ref (q 14)), (1, .int x1), (2, .int x2)]) hx hb dX1_anySays_30 hl (k := 3) rfl xi_1 (by decide) rfl (fun ls hl => ?_)
      refine lv_goto (tgt := 2) hx hb dX1_anySays_33 (by decide) ?_
      exact hK2 x1 x2 (x3 + 1) S1 _ _ _ hf hw (lv_sub hl [1, 2, 3, 0] rfl)
    · have hf := x_neg hc hf
      refine lv_aload_n hx hb dX1_anySays_18 rfl (lv_at hl 0 rfl) ?_
      refine x_get B hw (Tb := TX1) inX1 14 (by decide) rfl rfl 3 (by decide) u109 (fun _ h => h) rfl dX1_anySays_19 ?_
      refine lv_iload_n hx hb dX1_anySays_22 rfl (lv_at hl 3 rfl) ?_
      refine x_iald B hw 18 (by decide) rfl dX1_anySays_23 hf (fun v3 hf => ?_)
      refine lv_iload_n hx hb dX1_anySays_24 rfl (lv_at hl 2 rfl) ?_
      refine lv_icmp_ne (tgt := 30) hx hb dX1_anySays_25 (by decide) (fun hc => ?_) (fun hc => ?_)
      · have hf := x_neg hc hf
        refine lv_iinc (v := x3 + 1) (lv' := [(3, .int (x3 + 1)), (0, .ref (q 14)), (1, .int x1), (2, .int x2)]) hx hb dX1_anySays_30 hl (k := 3) rfl xi_1 (by decide) rfl (fun ls hl => ?_)
        refine lv_goto (tgt := 2) hx hb dX1_anySays_33 (by decide) ?_
        exact hK2 x1 x2 (x3 + 1) S1 _ _ _ hf hw (lv_sub hl [1, 2, 3, 0] rfl)
      · have hf := x_pos hc hf
        refine lv_iconst (v := 1) hx hb dX1_anySays_28 (by decide) ?_
        exact x_zret B hw hf dX1_anySays_29

theorem jMenu_anySays_h2_ok (B : XB p s m args meth c A cX1_anySays 4 (some .boolean) RX1) {SF : St} {r : Int32} : ∀ (n : Nat) (x1 : Int32) (x2 : Int32) (x3 : Int32) (S : St) (H : Heap) (locs : List Loc) (ls : Array Slot), jMenu_anySays_h2 n x1 x2 x3 S = some (r, SF) → Xw D 40 (cellC T q) q T (ExC aK aV) A s S H locs → lv_has ls 4 [(0, .ref (q 14)), (1, .int x1), (2, .int x2), (3, .int x3)] → XG p l e ({ frames := 1, cells := 0, slots := 0, locals := 21 }) s m args below meth c D 40 (cellC T q) q T A SF (some (.int r)) H locs 2 ls [] := by
  intro n
  induction n with
  | zero =>
    intro x1 x2 x3 S H locs ls hf hw hl
    rw [jMenu_anySays_h2] at hf
    cases hf
  | succ n ih =>
    intro x1 x2 x3 S H locs ls hf hw hl
    rw [jMenu_anySays_h2] at hf
    exact jMenu_anySays_b2_ok B (jMenu_anySays_h2 n) ih x1 x2 x3 S hf hw hl

set_option maxHeartbeats 4000000 in
theorem jMenu_anySays_b0_ok (B : XB p s m args meth c A cX1_anySays 4 (some .boolean) RX1) {SF : St} {r : Int32}  (x1 : Int32) (x2 : Int32) (S : St) {H : Heap} {locs : List Loc} {ls : Array Slot} (hf : jMenu_anySays x1 x2 S = some (r, SF)) (hw : Xw D 40 (cellC T q) q T (ExC aK aV) A s S H locs) (hl : lv_has ls 4 [(0, .ref (q 14)), (1, .int x1), (2, .int x2)]) : XG p l e ({ frames := 1, cells := 0, slots := 0, locals := 21 }) s m args below meth c D 40 (cellC T q) q T A SF (some (.int r)) H locs 0 ls [] := by
  unfold jMenu_anySays at hf
  obtain ⟨hx, hb, hr, hml, hown, hts, hlk, hA⟩ := id B
  refine lv_iconst (v := 0) hx hb dX1_anySays_0 (by decide) ?_
  refine lv_istore_n (lv' := [(3, .int 0), (0, .ref (q 14)), (1, .int x1), (2, .int x2)]) hx hb dX1_anySays_1 rfl hl (by decide) rfl (fun ls hl => ?_)
  exact jMenu_anySays_h2_ok B FU x1 x2 0 S _ _ _ hf hw (lv_sub hl [1, 2, 3, 0] rfl)

set_option maxHeartbeats 4000000 in
theorem jMenu_anySays_ok {x1 : Int32} {x2 : Int32} {S SF : St} {r : Int32} (hf : jMenu_anySays x1 x2 S = some (r, SF)) : XMet l D 40 (cellC T q) q T (ExC aK aV) yX1_anySays cX1_anySays 4 (some .boolean) ({ frames := 1, cells := 0, slots := 0, locals := 21 }) [.ref (q 14), .int x1, .int x2] S (some (.int r)) SF := by
  refine x_enter (own := RX1) (by decide +kernel) rfl (Nat.le_of_ble_eq_true rfl) (fun p e s m below meth c A B ls hw hl0 => ?_)
  have hl : lv_has ls 4 [(0, .ref (q 14)), (1, .int x1), (2, .int x2)] := hl0
  exact jMenu_anySays_b0_ok B x1 x2 S hf hw hl

set_option maxHeartbeats 4000000 in
theorem jSmoke_feast_b0_ok (B : XB p s m args meth c A cX6_feast 6 (some .int) RX6) {SF : St} {r : Int32}  (x1 : Int32) (x2 : Int32) (S : St) {H : Heap} {locs : List Loc} {ls : Array Slot} (hf : jSmoke_feast x1 x2 S = some (r, SF)) (hw : Xw D 40 (cellC T q) q T (ExC aK aV) A s S H locs) (hl : lv_has ls 6 [(0, .ref (q 0)), (1, .int x1), (2, .int x2)]) : XG p l e ({ frames := 2, cells := 0, slots := 0, locals := 44 }) s m args below meth c D 40 (cellC T q) q T A SF (some (.int r)) H locs 0 ls [] := by
  unfold jSmoke_feast at hf
  obtain ⟨hx, hb, hr, hml, hown, hts, hlk, hA⟩ := id B
  refine lv_iload_n hx hb dX6_feast_0 rfl (lv_at hl 1 rfl) ?_
  refine lv_iconst (v := 1) hx hb dX6_feast_1 (by decide) ?_
  refine lv_aload_n hx hb dX6_feast_2 rfl (lv_at hl 0 rfl) ?_
  refine x_get B hw (Tb := TX6) inX6 0 (by decide) rfl rfl 2 (by decide) u232 (fun _ h => h) rfl dX6_feast_3 ?_
  refine x_get B hw (Tb := TX1) inX1 14 (by decide) rfl rfl 4 (by decide) u115 (fun _ h => h) rfl dX6_feast_6 ?_
  refine lv_ishl hx hb dX6_feast_9 ?_
  refine lv_iconst (v := 1) hx hb dX6_feast_10 (by decide) ?_
  refine lv_isub hx hb dX6_feast_11 ?_
  refine lv_iand hx hb dX6_feast_12 ?_
  refine x_leti hf (fun v1 hf => ?_)
  refine lv_istore_n (lv' := [(3, .int v1), (0, .ref (q 0)), (1, .int x1), (2, .int x2)]) hx hb dX6_feast_13 rfl hl (by decide) rfl (fun ls hl => ?_)
  refine lv_iload_n hx hb dX6_feast_14 rfl (lv_at hl 0 rfl) ?_
  refine lv_if_eq (tgt := 27) hx hb dX6_feast_15 (by decide) (fun hc => ?_) (fun hc => ?_)
  · have hf := x_pos hc hf
    refine lv_iconst (v := (-1)) hx hb dX6_feast_27 (by decide) ?_
    exact x_iret B hw hf dX6_feast_28
  · have hf := x_neg hc hf
    refine lv_iload_n hx hb dX6_feast_18 rfl (lv_at hl 3 rfl) ?_
    refine lv_if_lt (tgt := 27) hx hb dX6_feast_19 (by decide) (fun hc => ?_) (fun hc => ?_)
    · have hf := x_pos hc hf
      refine lv_iconst (v := (-1)) hx hb dX6_feast_27 (by decide) ?_
      exact x_iret B hw hf dX6_feast_28
    · have hf := x_neg hc hf
      refine lv_iload_n hx hb dX6_feast_22 rfl (lv_at hl 3 rfl) ?_
      refine lv_iconst (v := 2) hx hb dX6_feast_23 (by decide) ?_
      refine lv_icmp_le (tgt := 29) hx hb dX6_feast_24 (by decide) (fun hc => ?_) (fun hc => ?_)
      · have hf := x_pos hc hf
        refine lv_aload_n hx hb dX6_feast_29 rfl (lv_at hl 1 rfl) ?_
        refine x_get B hw (Tb := TX6) inX6 0 (by decide) rfl rfl 2 (by decide) u232 (fun _ h => h) rfl dX6_feast_30 ?_
        refine lv_iload_n hx hb dX6_feast_33 rfl (lv_at hl 0 rfl) ?_
        obtain ⟨v3, S2, hc, hf⟩ := x_bd_some hf
        refine x_callV B ExC_ok hw 14 (by decide) rfl rfl (As := [.int v1]) (rest := []) (st1 := [.int v3]) (jMenu_smokeOfAll_ok hc) u606 u607 u608 u41 u609 hdX1_smokeOfAll rfl ⟨Nat.le_of_ble_eq_true rfl, Nat.le_of_ble_eq_true rfl⟩ ⟨rfl, rfl⟩ hl.1 (Nat.le_of_ble_eq_true rfl) dX6_feast_34 (fun H locs hw => ?_) rfl rfl
        refine lv_istore (lv' := [(4, .int v3), (3, .int v1), (0, .ref (q 0)), (1, .int x1), (2, .int x2)]) hx hb dX6_feast_37 hl (by decide) rfl (fun ls hl => ?_)
        refine lv_iload_n hx hb dX6_feast_39 rfl (lv_at hl 4 rfl) ?_
        refine lv_if_ne (tgt := 46) hx hb dX6_feast_40 (by decide) (fun hc => ?_) (fun hc => ?_)
        · have hf := x_neg hc hf
          refine lv_aload_n hx hb dX6_feast_46 rfl (lv_at hl 2 rfl) ?_
          refine x_get B hw (Tb := TX6) inX6 0 (by decide) rfl rfl 2 (by decide) u232 (fun _ h => h) rfl dX6_feast_47 ?_
          refine lv_iload hx hb dX6_feast_50 (lv_at hl 0 rfl) ?_
          obtain ⟨v5, S4, hc, hf⟩ := x_bd_some hf
          refine x_callV B ExC_ok hw 14 (by decide) rfl rfl (As := [.int v3]) (rest := []) (st1 := [.int v5]) (jMenu_meaning_ok hc) u535 u536 u537 u41 u538 hdX1_meaning rfl ⟨Nat.le_of_ble_eq_true rfl, Nat.le_of_ble_eq_true rfl⟩ ⟨rfl, rfl⟩ hl.1 (Nat.le_of_ble_eq_true rfl) dX6_feast_52 (fun H locs hw => ?_) rfl rfl
          refine lv_istore (lv' := [(5, .int v5), (4, .int v3), (3, .int v1), (0, .ref (q 0)), (1, .int x1), (2, .int x2)]) hx hb dX6_feast_55 hl (by decide) rfl (fun ls hl => ?_)
          refine lv_iload_n hx hb dX6_feast_57 rfl (lv_at hl 5 rfl) ?_
          refine lv_iconst (v := 1) hx hb dX6_feast_58 (by decide) ?_
          refine lv_icmp_eq (tgt := 69) hx hb dX6_feast_59 (by decide) (fun hc => ?_) (fun hc => ?_)
          · have hf := x_pos hc hf
            refine lv_iload hx hb dX6_feast_69 (lv_at hl 0 rfl) ?_
            exact x_iret B hw hf dX6_feast_71
          · have hf := x_neg hc hf
            refine lv_iload hx hb dX6_feast_62 (lv_at hl 0 rfl) ?_
            refine lv_bipush (v := (-9)) hx hb dX6_feast_64 (by decide) ?_
            refine lv_icmp_ne (tgt := 72) hx hb dX6_feast_66 (by decide) (fun hc => ?_) (fun hc => ?_)
            · have hf := x_neg hc hf
              refine lv_aload_n hx hb dX6_feast_72 rfl (lv_at hl 3 rfl) ?_
              refine x_get B hw (Tb := TX6) inX6 0 (by decide) rfl rfl 2 (by decide) u232 (fun _ h => h) rfl dX6_feast_73 ?_
              refine lv_iload_n hx hb dX6_feast_76 rfl (lv_at hl 2 rfl) ?_
              refine lv_iload hx hb dX6_feast_77 (lv_at hl 0 rfl) ?_
              obtain ⟨v7, S6, hc, hf⟩ := x_bd_some hf
              refine x_callV B ExC_ok hw 14 (by decide) rfl rfl (As := [.int v1, .int v5]) (rest := []) (st1 := [.int v7]) (jMenu_anySays_ok hc) u610 u611 u612 u41 u613 hdX1_anySays rfl ⟨Nat.le_of_ble_eq_true rfl, Nat.le_of_ble_eq_true rfl⟩ ⟨rfl, rfl⟩ hl.1 (Nat.le_of_ble_eq_true rfl) dX6_feast_79 (fun H locs hw => ?_) rfl rfl
              refine lv_if_eq (tgt := 89) hx hb dX6_feast_82 (by decide) (fun hc => ?_) (fun hc => ?_)
              · have hf := x_pos hc hf
                refine lv_iconst (v := 1) hx hb dX6_feast_89 (by decide) ?_
                exact x_iret B hw hf dX6_feast_90
              · have hf := x_neg hc hf
                refine lv_iconst (v := 0) hx hb dX6_feast_85 (by decide) ?_
                refine lv_goto (tgt := 90) hx hb dX6_feast_86 (by decide) ?_
                exact x_iret B hw hf dX6_feast_90
            · have hf := x_pos hc hf
              refine lv_iload hx hb dX6_feast_69 (lv_at hl 0 rfl) ?_
              exact x_iret B hw hf dX6_feast_71
        · have hf := x_pos hc hf
          refine lv_iload hx hb dX6_feast_43 (lv_at hl 0 rfl) ?_
          exact x_iret B hw hf dX6_feast_45
      · have hf := x_neg hc hf
        refine lv_iconst (v := (-1)) hx hb dX6_feast_27 (by decide) ?_
        exact x_iret B hw hf dX6_feast_28

set_option maxHeartbeats 4000000 in
theorem jSmoke_feast_ok {x1 : Int32} {x2 : Int32} {S SF : St} {r : Int32} (hf : jSmoke_feast x1 x2 S = some (r, SF)) : XMet l D 40 (cellC T q) q T (ExC aK aV) yX6_feast cX6_feast 6 (some .int) ({ frames := 2, cells := 0, slots := 0, locals := 44 }) [.ref (q 0), .int x1, .int x2] S (some (.int r)) SF := by
  refine x_enter (own := RX6) (by decide +kernel) rfl (Nat.le_of_ble_eq_true rfl) (fun p e s m below meth c A B ls hw hl0 => ?_)
  have hl : lv_has ls 6 [(0, .ref (q 0)), (1, .int x1), (2, .int x2)] := hl0
  exact jSmoke_feast_b0_ok B x1 x2 S hf hw hl

set_option maxHeartbeats 4000000 in
theorem jSmoke_silent_b39_ok (B : XB p s m args meth c A cX6_silent 4 (some .int) RX6) {SF : St} {r : Int32} (K39 : Int32 → Int32 → St → Option (Int32 × St)) (hK39 : ∀ (x2 : Int32) (x3 : Int32) (S : St) (H : Heap) (locs : List Loc) (ls : Array Slot), K39 x2 x3 S = some (r, SF) → Xw D 40 (cellC T q) q T (ExC aK aV) A s S H locs → lv_has ls 4 [(0, .ref (q 0)), (2, .int x2), (3, .int x3)] → XG p l e ({ frames := 1, cells := 0, slots := 0, locals := 21 }) s m args below meth c D 40 (cellC T q) q T A SF (some (.int r)) H locs 39 ls [])  (x2 : Int32) (x3 : Int32) (S : St) {H : Heap} {locs : List Loc} {ls : Array Slot} (hf : jSmoke_silent_b39 K39 x2 x3 S = some (r, SF)) (hw : Xw D 40 (cellC T q) q T (ExC aK aV) A s S H locs) (hl : lv_has ls 4 [(0, .ref (q 0)), (2, .int x2), (3, .int x3)]) : XG p l e ({ frames := 1, cells := 0, slots := 0, locals := 21 }) s m args below meth c D 40 (cellC T q) q T A SF (some (.int r)) H locs 39 ls [] := by
  unfold jSmoke_silent_b39 at hf
  obtain ⟨hx, hb, hr, hml, hown, hts, hlk, hA⟩ := id B
  refine lv_iload_n hx hb dX6_silent_39 rfl (lv_at hl 2 rfl) ?_
  refine lv_aload_n hx hb dX6_silent_40 rfl (lv_at hl 0 rfl) ?_
  refine x_get B hw (Tb := TX6) inX6 0 (by decide) rfl rfl 3 (by decide) u233 (fun _ h => h) rfl dX6_silent_41 ?_
  refine x_get B hw (Tb := TX3) inX3 19 (by decide) rfl rfl 4 (by decide) u143 (fun _ h => h) rfl dX6_silent_44 ?_
  refine lv_icmp_ge (tgt := 72) hx hb dX6_silent_47 (by decide) (fun hc => ?_) (fun hc => ?_)
  · have hf := x_pos hc hf
    refine lv_iload_n hx hb dX6_silent_72 rfl (lv_at hl 1 rfl) ?_
    exact x_iret B hw hf dX6_silent_73
  · have hf := x_neg hc hf
    refine lv_iload_n hx hb dX6_silent_50 rfl (lv_at hl 1 rfl) ?_
    refine lv_iconst (v := 1) hx hb dX6_silent_51 (by decide) ?_
    refine lv_aload_n hx hb dX6_silent_52 rfl (lv_at hl 0 rfl) ?_
    refine x_get B hw (Tb := TX6) inX6 0 (by decide) rfl rfl 3 (by decide) u233 (fun _ h => h) rfl dX6_silent_53 ?_
    refine x_get B hw (Tb := TX3) inX3 19 (by decide) rfl rfl 1 (by decide) u135 (fun _ h => h) rfl dX6_silent_56 ?_
    refine lv_iload_n hx hb dX6_silent_59 rfl (lv_at hl 2 rfl) ?_
    refine x_iald B hw 21 (by decide) rfl dX6_silent_60 hf (fun v3 hf => ?_)
    refine lv_ishl hx hb dX6_silent_61 ?_
    refine lv_iconst (v := (-1)) hx hb dX6_silent_62 (by decide) ?_
    refine lv_ixor hx hb dX6_silent_63 ?_
    refine lv_iand hx hb dX6_silent_64 ?_
    refine x_leti hf (fun v4 hf => ?_)
    refine lv_istore_n (lv' := [(2, .int v4), (0, .ref (q 0)), (3, .int x3)]) hx hb dX6_silent_65 rfl hl (by decide) rfl (fun ls hl => ?_)
    refine lv_iinc (v := x3 + 1) (lv' := [(3, .int (x3 + 1)), (2, .int v4), (0, .ref (q 0))]) hx hb dX6_silent_66 hl (k := 2) rfl xi_1 (by decide) rfl (fun ls hl => ?_)
    refine lv_goto (tgt := 39) hx hb dX6_silent_69 (by decide) ?_
    exact hK39 v4 (x3 + 1) S _ _ _ hf hw (lv_sub hl [2, 1, 0] rfl)

theorem jSmoke_silent_h39_ok (B : XB p s m args meth c A cX6_silent 4 (some .int) RX6) {SF : St} {r : Int32} : ∀ (n : Nat) (x2 : Int32) (x3 : Int32) (S : St) (H : Heap) (locs : List Loc) (ls : Array Slot), jSmoke_silent_h39 n x2 x3 S = some (r, SF) → Xw D 40 (cellC T q) q T (ExC aK aV) A s S H locs → lv_has ls 4 [(0, .ref (q 0)), (2, .int x2), (3, .int x3)] → XG p l e ({ frames := 1, cells := 0, slots := 0, locals := 21 }) s m args below meth c D 40 (cellC T q) q T A SF (some (.int r)) H locs 39 ls [] := by
  intro n
  induction n with
  | zero =>
    intro x2 x3 S H locs ls hf hw hl
    rw [jSmoke_silent_h39] at hf
    cases hf
  | succ n ih =>
    intro x2 x3 S H locs ls hf hw hl
    rw [jSmoke_silent_h39] at hf
    exact jSmoke_silent_b39_ok B (jSmoke_silent_h39 n) ih x2 x3 S hf hw hl

set_option maxHeartbeats 4000000 in
theorem jSmoke_silent_b0_ok (B : XB p s m args meth c A cX6_silent 4 (some .int) RX6) {SF : St} {r : Int32}  (x1 : Int32) (S : St) {H : Heap} {locs : List Loc} {ls : Array Slot} (hf : jSmoke_silent x1 S = some (r, SF)) (hw : Xw D 40 (cellC T q) q T (ExC aK aV) A s S H locs) (hl : lv_has ls 4 [(0, .ref (q 0)), (1, .int x1)]) : XG p l e ({ frames := 1, cells := 0, slots := 0, locals := 21 }) s m args below meth c D 40 (cellC T q) q T A SF (some (.int r)) H locs 0 ls [] := by
  unfold jSmoke_silent at hf
  obtain ⟨hx, hb, hr, hml, hown, hts, hlk, hA⟩ := id B
  refine lv_iload_n hx hb dX6_silent_0 rfl (lv_at hl 1 rfl) ?_
  refine lv_iconst (v := 1) hx hb dX6_silent_1 (by decide) ?_
  refine lv_icmp_lt (tgt := 11) hx hb dX6_silent_2 (by decide) (fun hc => ?_) (fun hc => ?_)
  · have hf := x_pos hc hf
    refine lv_iconst (v := (-1)) hx hb dX6_silent_11 (by decide) ?_
    exact x_iret B hw hf dX6_silent_12
  · have hf := x_neg hc hf
    refine lv_iload_n hx hb dX6_silent_5 rfl (lv_at hl 1 rfl) ?_
    refine lv_bipush (v := 20) hx hb dX6_silent_6 (by decide) ?_
    refine lv_icmp_le (tgt := 13) hx hb dX6_silent_8 (by decide) (fun hc => ?_) (fun hc => ?_)
    · have hf := x_pos hc hf
      refine lv_iconst (v := 1) hx hb dX6_silent_13 (by decide) ?_
      refine lv_aload_n hx hb dX6_silent_14 rfl (lv_at hl 0 rfl) ?_
      refine x_get B hw (Tb := TX6) inX6 0 (by decide) rfl rfl 3 (by decide) u233 (fun _ h => h) rfl dX6_silent_15 ?_
      refine x_get B hw (Tb := TX3) inX3 19 (by decide) rfl rfl 3 (by decide) u140 (fun _ h => h) rfl dX6_silent_18 ?_
      refine lv_ishl hx hb dX6_silent_21 ?_
      refine lv_iconst (v := 1) hx hb dX6_silent_22 (by decide) ?_
      refine lv_isub hx hb dX6_silent_23 ?_
      refine x_leti hf (fun v1 hf => ?_)
      refine lv_istore_n (lv' := [(2, .int v1), (0, .ref (q 0)), (1, .int x1)]) hx hb dX6_silent_24 rfl hl (by decide) rfl (fun ls hl => ?_)
      refine lv_iconst (v := 0) hx hb dX6_silent_25 (by decide) ?_
      refine lv_aload_n hx hb dX6_silent_26 rfl (lv_at hl 1 rfl) ?_
      refine x_get B hw (Tb := TX6) inX6 0 (by decide) rfl rfl 3 (by decide) u233 (fun _ h => h) rfl dX6_silent_27 ?_
      refine x_get B hw (Tb := TX3) inX3 19 (by decide) rfl rfl 4 (by decide) u143 (fun _ h => h) rfl dX6_silent_30 ?_
      refine lv_iload_n hx hb dX6_silent_33 rfl (lv_at hl 2 rfl) ?_
      refine lv_isub hx hb dX6_silent_34 ?_
      refine va_mmax hx hb (hml.trans hl.1.symm) hown (hts _ u599) (hts _ u600) (hts _ u50) (hts _ u601) (Nat.le_of_ble_eq_true rfl) (Nat.le_of_ble_eq_true rfl) (Nat.zero_le _) (Nat.zero_le _) dX6_silent_35 ?_
      refine x_leti hf (fun v2 hf => ?_)
      refine lv_istore_n (lv' := [(3, .int v2), (2, .int v1), (0, .ref (q 0)), (1, .int x1)]) hx hb dX6_silent_38 rfl hl (by decide) rfl (fun ls hl => ?_)
      exact jSmoke_silent_h39_ok B FU v1 v2 S _ _ _ hf hw (lv_sub hl [2, 1, 0] rfl)
    · have hf := x_neg hc hf
      refine lv_iconst (v := (-1)) hx hb dX6_silent_11 (by decide) ?_
      exact x_iret B hw hf dX6_silent_12

set_option maxHeartbeats 4000000 in
theorem jSmoke_silent_ok {x1 : Int32} {S SF : St} {r : Int32} (hf : jSmoke_silent x1 S = some (r, SF)) : XMet l D 40 (cellC T q) q T (ExC aK aV) yX6_silent cX6_silent 4 (some .int) ({ frames := 1, cells := 0, slots := 0, locals := 21 }) [.ref (q 0), .int x1] S (some (.int r)) SF := by
  refine x_enter (own := RX6) (by decide +kernel) rfl (Nat.le_of_ble_eq_true rfl) (fun p e s m below meth c A B ls hw hl0 => ?_)
  have hl : lv_has ls 4 [(0, .ref (q 0)), (1, .int x1)] := hl0
  exact jSmoke_silent_b0_ok B x1 S hf hw hl

set_option maxHeartbeats 4000000 in
theorem jSuppers_draw_b0_ok (B : XB p s m args meth c A cX3_draw 1 (some .int) RX3) {SF : St} {r : Int32}  (S : St) {H : Heap} {locs : List Loc} {ls : Array Slot} (hf : jSuppers_draw S = some (r, SF)) (hw : Xw D 40 (cellC T q) q T (ExC aK aV) A s S H locs) (hl : lv_has ls 1 [(0, .ref (q 19))]) : XG p l e ({ frames := 0, cells := 0, slots := 0, locals := 0 }) s m args below meth c D 40 (cellC T q) q T A SF (some (.int r)) H locs 0 ls [] := by
  unfold jSuppers_draw at hf
  obtain ⟨hx, hb, hr, hml, hown, hts, hlk, hA⟩ := id B
  refine lv_aload_n hx hb dX3_draw_0 rfl (lv_at hl 0 rfl) ?_
  refine lv_aload_n hx hb dX3_draw_1 rfl (lv_at hl 0 rfl) ?_
  refine x_get B hw (Tb := TX3) inX3 19 (by decide) rfl rfl 6 (by decide) u147 (fun _ h => h) rfl dX3_draw_2 ?_
  refine lv_ldc (v := 1103515245) hx hb hown (hts _ u626) dX3_draw_5 ?_
  refine lv_imul hx hb dX3_draw_7 ?_
  refine lv_sipush (v := 12345) hx hb dX3_draw_8 (by decide) ?_
  refine lv_iadd hx hb dX3_draw_11 ?_
  refine x_put B hw (Tb := TX3) inX3 tyX3 tyX3_ok nmX3 19 (by decide) rfl rfl 6 (by decide) u147 (fun _ h => h) rfl (ty := .int) (by decide +kernel) rfl rfl (Nat.le_of_ble_eq_true rfl) (S1 := upI S 19 6 (((S.1 19 6) * 1103515245) + 12345)) rfl upI_o (fun _ _ => rfl) dX3_draw_12 hf (fun S1 H locs hw hf => ?_)
  refine lv_aload_n hx hb dX3_draw_15 rfl (lv_at hl 0 rfl) ?_
  refine x_get B hw (Tb := TX3) inX3 19 (by decide) rfl rfl 6 (by decide) u147 (fun _ h => h) rfl dX3_draw_16 ?_
  refine lv_bipush (v := 16) hx hb dX3_draw_19 (by decide) ?_
  refine lv_iushr (v := x_ush (S1.1 19 6) 16) hx hb dX3_draw_21 rfl ?_
  refine lv_bipush (v := 10) hx hb dX3_draw_22 (by decide) ?_
  obtain ⟨hne, hf⟩ := x_ng hf
  refine lv_irem hx hb dX3_draw_24 hne ?_
  exact x_iret B hw hf dX3_draw_25

set_option maxHeartbeats 4000000 in
theorem jSuppers_draw_ok {S SF : St} {r : Int32} (hf : jSuppers_draw S = some (r, SF)) : XMet l D 40 (cellC T q) q T (ExC aK aV) yX3_draw cX3_draw 1 (some .int) ({ frames := 0, cells := 0, slots := 0, locals := 0 }) [.ref (q 19)] S (some (.int r)) SF := by
  refine x_enter (own := RX3) (by decide +kernel) rfl (Nat.le_of_ble_eq_true rfl) (fun p e s m below meth c A B ls hw hl0 => ?_)
  have hl : lv_has ls 1 [(0, .ref (q 19))] := hl0
  exact jSuppers_draw_b0_ok B S hf hw hl

set_option maxHeartbeats 4000000 in
theorem jSmoke_drawn_b13_ok (B : XB p s m args meth c A cX6_drawn 4 (some .int) RX6) {SF : St} {r : Int32} (K13 : Int32 → Int32 → St → Option (Int32 × St)) (hK13 : ∀ (x2 : Int32) (x3 : Int32) (S : St) (H : Heap) (locs : List Loc) (ls : Array Slot), K13 x2 x3 S = some (r, SF) → Xw D 40 (cellC T q) q T (ExC aK aV) A s S H locs → lv_has ls 4 [(0, .ref (q 0)), (2, .int x2), (3, .int x3)] → XG p l e ({ frames := 1, cells := 0, slots := 0, locals := 20 }) s m args below meth c D 40 (cellC T q) q T A SF (some (.int r)) H locs 13 ls [])  (x2 : Int32) (x3 : Int32) (S : St) {H : Heap} {locs : List Loc} {ls : Array Slot} (hf : jSmoke_drawn_b13 K13 x2 x3 S = some (r, SF)) (hw : Xw D 40 (cellC T q) q T (ExC aK aV) A s S H locs) (hl : lv_has ls 4 [(0, .ref (q 0)), (2, .int x2), (3, .int x3)]) : XG p l e ({ frames := 1, cells := 0, slots := 0, locals := 20 }) s m args below meth c D 40 (cellC T q) q T A SF (some (.int r)) H locs 13 ls [] := by
  unfold jSmoke_drawn_b13 at hf
  obtain ⟨hx, hb, hr, hml, hown, hts, hlk, hA⟩ := id B
  refine lv_iload_n hx hb dX6_drawn_13 rfl (lv_at hl 2 rfl) ?_
  refine lv_iconst (v := 3) hx hb dX6_drawn_14 (by decide) ?_
  refine lv_icmp_ge (tgt := 47) hx hb dX6_drawn_15 (by decide) (fun hc => ?_) (fun hc => ?_)
  · have hf := x_pos hc hf
    refine lv_iload_n hx hb dX6_drawn_47 rfl (lv_at hl 1 rfl) ?_
    exact x_iret B hw hf dX6_drawn_48
  · have hf := x_neg hc hf
    refine lv_aload_n hx hb dX6_drawn_18 rfl (lv_at hl 0 rfl) ?_
    refine x_get B hw (Tb := TX6) inX6 0 (by decide) rfl rfl 3 (by decide) u233 (fun _ h => h) rfl dX6_drawn_19 ?_
    obtain ⟨v4, S3, hc, hf⟩ := x_bd_some hf
    refine x_callV B ExC_ok hw 19 (by decide) rfl rfl (As := []) (rest := []) (st1 := [.int v4]) (jSuppers_draw_ok hc) u622 u623 u624 u42 u625 hdX3_draw rfl ⟨Nat.le_of_ble_eq_true rfl, Nat.le_of_ble_eq_true rfl⟩ ⟨rfl, rfl⟩ hl.1 (Nat.le_of_ble_eq_true rfl) dX6_drawn_22 (fun H locs hw => ?_) rfl rfl
    refine lv_aload_n hx hb dX6_drawn_25 rfl (lv_at hl 0 rfl) ?_
    refine x_get B hw (Tb := TX6) inX6 0 (by decide) rfl rfl 3 (by decide) u233 (fun _ h => h) rfl dX6_drawn_26 ?_
    refine x_get B hw (Tb := TX3) inX3 19 (by decide) rfl rfl 5 (by decide) u146 (fun _ h => h) rfl dX6_drawn_29 ?_
    refine lv_icmp_ge (tgt := 41) hx hb dX6_drawn_32 (by decide) (fun hc => ?_) (fun hc => ?_)
    · have hf := x_pos hc hf
      refine lv_iinc (v := x3 + 1) (lv' := [(3, .int (x3 + 1)), (0, .ref (q 0)), (2, .int x2)]) hx hb dX6_drawn_41 hl (k := 2) rfl xi_1 (by decide) rfl (fun ls hl => ?_)
      refine lv_goto (tgt := 13) hx hb dX6_drawn_44 (by decide) ?_
      exact hK13 x2 (x3 + 1) S3 _ _ _ hf hw (lv_sub hl [1, 2, 0] rfl)
    · have hf := x_neg hc hf
      refine lv_iload_n hx hb dX6_drawn_35 rfl (lv_at hl 1 rfl) ?_
      refine lv_iconst (v := 1) hx hb dX6_drawn_36 (by decide) ?_
      refine lv_iload_n hx hb dX6_drawn_37 rfl (lv_at hl 2 rfl) ?_
      refine lv_ishl hx hb dX6_drawn_38 ?_
      refine lv_ixor hx hb dX6_drawn_39 ?_
      refine x_leti hf (fun v5 hf => ?_)
      refine lv_istore_n (lv' := [(2, .int v5), (0, .ref (q 0)), (3, .int x3)]) hx hb dX6_drawn_40 rfl hl (by decide) rfl (fun ls hl => ?_)
      refine lv_iinc (v := x3 + 1) (lv' := [(3, .int (x3 + 1)), (2, .int v5), (0, .ref (q 0))]) hx hb dX6_drawn_41 hl (k := 2) rfl xi_1 (by decide) rfl (fun ls hl => ?_)
      refine lv_goto (tgt := 13) hx hb dX6_drawn_44 (by decide) ?_
      exact hK13 v5 (x3 + 1) S3 _ _ _ hf hw (lv_sub hl [2, 1, 0] rfl)

theorem jSmoke_drawn_h13_ok (B : XB p s m args meth c A cX6_drawn 4 (some .int) RX6) {SF : St} {r : Int32} : ∀ (n : Nat) (x2 : Int32) (x3 : Int32) (S : St) (H : Heap) (locs : List Loc) (ls : Array Slot), jSmoke_drawn_h13 n x2 x3 S = some (r, SF) → Xw D 40 (cellC T q) q T (ExC aK aV) A s S H locs → lv_has ls 4 [(0, .ref (q 0)), (2, .int x2), (3, .int x3)] → XG p l e ({ frames := 1, cells := 0, slots := 0, locals := 20 }) s m args below meth c D 40 (cellC T q) q T A SF (some (.int r)) H locs 13 ls [] := by
  intro n
  induction n with
  | zero =>
    intro x2 x3 S H locs ls hf hw hl
    rw [jSmoke_drawn_h13] at hf
    cases hf
  | succ n ih =>
    intro x2 x3 S H locs ls hf hw hl
    rw [jSmoke_drawn_h13] at hf
    exact jSmoke_drawn_b13_ok B (jSmoke_drawn_h13 n) ih x2 x3 S hf hw hl

set_option maxHeartbeats 4000000 in
theorem jSmoke_drawn_b0_ok (B : XB p s m args meth c A cX6_drawn 4 (some .int) RX6) {SF : St} {r : Int32}  (x1 : Int32) (S : St) {H : Heap} {locs : List Loc} {ls : Array Slot} (hf : jSmoke_drawn x1 S = some (r, SF)) (hw : Xw D 40 (cellC T q) q T (ExC aK aV) A s S H locs) (hl : lv_has ls 4 [(0, .ref (q 0)), (1, .int x1)]) : XG p l e ({ frames := 1, cells := 0, slots := 0, locals := 20 }) s m args below meth c D 40 (cellC T q) q T A SF (some (.int r)) H locs 0 ls [] := by
  unfold jSmoke_drawn at hf
  obtain ⟨hx, hb, hr, hml, hown, hts, hlk, hA⟩ := id B
  refine lv_iload_n hx hb dX6_drawn_0 rfl (lv_at hl 1 rfl) ?_
  obtain ⟨v2, S1, hc, hf⟩ := x_bd_some hf
  refine x_callS B ExC_ok hw (As := [.int x1]) (rest := []) (st1 := [.int v2]) (jSmoke_isSmoke_ok hc) u524 u525 u38 u526 hdX6_isSmoke rfl ⟨Nat.le_of_ble_eq_true rfl, Nat.le_of_ble_eq_true rfl⟩ ⟨rfl, rfl⟩ hl.1 (Nat.le_of_ble_eq_true rfl) dX6_drawn_1 (fun H locs hw => ?_) rfl rfl
  refine lv_if_ne (tgt := 9) hx hb dX6_drawn_4 (by decide) (fun hc => ?_) (fun hc => ?_)
  · have hf := x_neg hc hf
    refine lv_iload_n hx hb dX6_drawn_9 rfl (lv_at hl 1 rfl) ?_
    refine lv_istore_n (lv' := [(2, .int x1), (0, .ref (q 0)), (1, .int x1)]) hx hb dX6_drawn_10 rfl hl (by decide) rfl (fun ls hl => ?_)
    refine lv_iconst (v := 0) hx hb dX6_drawn_11 (by decide) ?_
    refine lv_istore_n (lv' := [(3, .int 0), (2, .int x1), (0, .ref (q 0)), (1, .int x1)]) hx hb dX6_drawn_12 rfl hl (by decide) rfl (fun ls hl => ?_)
    exact jSmoke_drawn_h13_ok B FU x1 0 S1 _ _ _ hf hw (lv_sub hl [2, 1, 0] rfl)
  · have hf := x_pos hc hf
    refine lv_iconst (v := (-1)) hx hb dX6_drawn_7 (by decide) ?_
    exact x_iret B hw hf dX6_drawn_8

set_option maxHeartbeats 4000000 in
theorem jSmoke_drawn_ok {x1 : Int32} {S SF : St} {r : Int32} (hf : jSmoke_drawn x1 S = some (r, SF)) : XMet l D 40 (cellC T q) q T (ExC aK aV) yX6_drawn cX6_drawn 4 (some .int) ({ frames := 1, cells := 0, slots := 0, locals := 20 }) [.ref (q 0), .int x1] S (some (.int r)) SF := by
  refine x_enter (own := RX6) (by decide +kernel) rfl (Nat.le_of_ble_eq_true rfl) (fun p e s m below meth c A B ls hw hl0 => ?_)
  have hl : lv_has ls 4 [(0, .ref (q 0)), (1, .int x1)] := hl0
  exact jSmoke_drawn_b0_ok B x1 S hf hw hl

set_option maxHeartbeats 4000000 in
theorem jSmoke_lot_b0_ok (B : XB p s m args meth c A cX6_lot 3 (some .int) RX6) {SF : St} {r : Int32}  (x1 : Int32) (S : St) {H : Heap} {locs : List Loc} {ls : Array Slot} (hf : jSmoke_lot x1 S = some (r, SF)) (hw : Xw D 40 (cellC T q) q T (ExC aK aV) A s S H locs) (hl : lv_has ls 3 [(0, .ref (q 0)), (1, .int x1)]) : XG p l e ({ frames := 0, cells := 0, slots := 0, locals := 0 }) s m args below meth c D 40 (cellC T q) q T A SF (some (.int r)) H locs 0 ls [] := by
  unfold jSmoke_lot at hf
  obtain ⟨hx, hb, hr, hml, hown, hts, hlk, hA⟩ := id B
  refine lv_aload_n hx hb dX6_lot_0 rfl (lv_at hl 0 rfl) ?_
  refine x_get B hw (Tb := TX6) inX6 0 (by decide) rfl rfl 3 (by decide) u233 (fun _ h => h) rfl dX6_lot_1 ?_
  refine x_get B hw (Tb := TX3) inX3 19 (by decide) rfl rfl 6 (by decide) u148 (fun _ h => h) rfl dX6_lot_4 ?_
  refine x_leti hf (fun v1 hf => ?_)
  refine lv_istore_n (lv' := [(2, .int v1), (0, .ref (q 0)), (1, .int x1)]) hx hb dX6_lot_7 rfl hl (by decide) rfl (fun ls hl => ?_)
  refine lv_aload_n hx hb dX6_lot_8 rfl (lv_at hl 1 rfl) ?_
  refine x_get B hw (Tb := TX6) inX6 0 (by decide) rfl rfl 3 (by decide) u233 (fun _ h => h) rfl dX6_lot_9 ?_
  refine lv_iload_n hx hb dX6_lot_12 rfl (lv_at hl 2 rfl) ?_
  refine x_put B hw (Tb := TX3) inX3 tyX3 tyX3_ok nmX3 19 (by decide) rfl rfl 6 (by decide) u148 (fun _ h => h) rfl (ty := .int) (by decide +kernel) rfl rfl (Nat.le_of_ble_eq_true rfl) (S1 := upI S 19 6 x1) rfl upI_o (fun _ _ => rfl) dX6_lot_13 hf (fun S2 H locs hw hf => ?_)
  refine lv_iload_n hx hb dX6_lot_16 rfl (lv_at hl 0 rfl) ?_
  exact x_iret B hw hf dX6_lot_17

set_option maxHeartbeats 4000000 in
theorem jSmoke_lot_ok {x1 : Int32} {S SF : St} {r : Int32} (hf : jSmoke_lot x1 S = some (r, SF)) : XMet l D 40 (cellC T q) q T (ExC aK aV) yX6_lot cX6_lot 3 (some .int) ({ frames := 0, cells := 0, slots := 0, locals := 0 }) [.ref (q 0), .int x1] S (some (.int r)) SF := by
  refine x_enter (own := RX6) (by decide +kernel) rfl (Nat.le_of_ble_eq_true rfl) (fun p e s m below meth c A B ls hw hl0 => ?_)
  have hl : lv_has ls 3 [(0, .ref (q 0)), (1, .int x1)] := hl0
  exact jSmoke_lot_b0_ok B x1 S hf hw hl

set_option maxHeartbeats 4000000 in
theorem jSmoke_markOfDish_b0_ok (B : XB p s m args meth c A cX6_markOfDish 2 (some .int) RX6) {SF : St} {r : Int32}  (x1 : Int32) (S : St) {H : Heap} {locs : List Loc} {ls : Array Slot} (hf : jSmoke_markOfDish x1 S = some (r, SF)) (hw : Xw D 40 (cellC T q) q T (ExC aK aV) A s S H locs) (hl : lv_has ls 2 [(0, .ref (q 0)), (1, .int x1)]) : XG p l e ({ frames := 0, cells := 0, slots := 0, locals := 0 }) s m args below meth c D 40 (cellC T q) q T A SF (some (.int r)) H locs 0 ls [] := by
  unfold jSmoke_markOfDish at hf
  obtain ⟨hx, hb, hr, hml, hown, hts, hlk, hA⟩ := id B
  refine lv_aload_n hx hb dX6_markOfDish_0 rfl (lv_at hl 0 rfl) ?_
  refine lv_dup hx hb dX6_markOfDish_1 rfl ?_
  refine x_get B hw (Tb := TX6) inX6 0 (by decide) rfl rfl 9 (by decide) u239 (fun _ h => h) rfl dX6_markOfDish_2 ?_
  refine lv_lconst (v := 1) hx hb dX6_markOfDish_5 (by decide) ?_
  refine lv_ladd hx hb dX6_markOfDish_6 ?_
  refine x_put B hw (Tb := TX6) inX6 tyX6 tyX6_ok nmX6 0 (by decide) rfl rfl 9 (by decide) u239 (fun _ h => h) rfl (ty := .long) (by decide +kernel) rfl rfl (Nat.le_of_ble_eq_true rfl) (S1 := upL S 0 9 ((S.2 0 9) + 1)) rfl (fun _ _ => rfl) upL_o dX6_markOfDish_7 hf (fun S1 H locs hw hf => ?_)
  refine lv_aload_n hx hb dX6_markOfDish_10 rfl (lv_at hl 0 rfl) ?_
  refine x_get B hw (Tb := TX6) inX6 0 (by decide) rfl rfl 2 (by decide) u232 (fun _ h => h) rfl dX6_markOfDish_11 ?_
  refine x_get B hw (Tb := TX1) inX1 14 (by decide) rfl rfl 1 (by decide) u105 (fun _ h => h) rfl dX6_markOfDish_14 ?_
  refine lv_iload_n hx hb dX6_markOfDish_17 rfl (lv_at hl 1 rfl) ?_
  refine x_iald B hw 16 (by decide) rfl dX6_markOfDish_18 hf (fun v2 hf => ?_)
  exact x_iret B hw hf dX6_markOfDish_19

set_option maxHeartbeats 4000000 in
theorem jSmoke_markOfDish_ok {x1 : Int32} {S SF : St} {r : Int32} (hf : jSmoke_markOfDish x1 S = some (r, SF)) : XMet l D 40 (cellC T q) q T (ExC aK aV) yX6_markOfDish cX6_markOfDish 2 (some .int) ({ frames := 0, cells := 0, slots := 0, locals := 0 }) [.ref (q 0), .int x1] S (some (.int r)) SF := by
  refine x_enter (own := RX6) (by decide +kernel) rfl (Nat.le_of_ble_eq_true rfl) (fun p e s m below meth c A B ls hw hl0 => ?_)
  have hl : lv_has ls 2 [(0, .ref (q 0)), (1, .int x1)] := hl0
  exact jSmoke_markOfDish_b0_ok B x1 S hf hw hl

set_option maxHeartbeats 4000000 in
theorem jSmoke_markOfStew_b0_ok (B : XB p s m args meth c A cX6_markOfStew 2 (some .int) RX6) {SF : St} {r : Int32}  (x1 : Int32) (S : St) {H : Heap} {locs : List Loc} {ls : Array Slot} (hf : jSmoke_markOfStew x1 S = some (r, SF)) (hw : Xw D 40 (cellC T q) q T (ExC aK aV) A s S H locs) (hl : lv_has ls 2 [(0, .ref (q 0)), (1, .int x1)]) : XG p l e ({ frames := 1, cells := 0, slots := 0, locals := 21 }) s m args below meth c D 40 (cellC T q) q T A SF (some (.int r)) H locs 0 ls [] := by
  unfold jSmoke_markOfStew at hf
  obtain ⟨hx, hb, hr, hml, hown, hts, hlk, hA⟩ := id B
  refine lv_aload_n hx hb dX6_markOfStew_0 rfl (lv_at hl 0 rfl) ?_
  refine lv_dup hx hb dX6_markOfStew_1 rfl ?_
  refine x_get B hw (Tb := TX6) inX6 0 (by decide) rfl rfl 9 (by decide) u239 (fun _ h => h) rfl dX6_markOfStew_2 ?_
  refine lv_ldc2 (v := 10) hx hb hown (hts _ u644) dX6_markOfStew_5 ?_
  refine lv_ladd hx hb dX6_markOfStew_8 ?_
  refine x_put B hw (Tb := TX6) inX6 tyX6 tyX6_ok nmX6 0 (by decide) rfl rfl 9 (by decide) u239 (fun _ h => h) rfl (ty := .long) (by decide +kernel) rfl rfl (Nat.le_of_ble_eq_true rfl) (S1 := upL S 0 9 ((S.2 0 9) + 10)) rfl (fun _ _ => rfl) upL_o dX6_markOfStew_9 hf (fun S1 H locs hw hf => ?_)
  refine lv_aload_n hx hb dX6_markOfStew_12 rfl (lv_at hl 0 rfl) ?_
  refine lv_iload_n hx hb dX6_markOfStew_13 rfl (lv_at hl 1 rfl) ?_
  obtain ⟨v3, S2, hc, hf⟩ := x_bd_some hf
  refine x_callV B ExC_ok hw 0 (by decide) rfl rfl (As := [.int x1]) (rest := []) (st1 := [.int v3]) (jSmoke_markOfDish_ok hc) u636 u638 u10 u38 u639 hdX6_markOfDish rfl ⟨Nat.le_of_ble_eq_true rfl, Nat.le_of_ble_eq_true rfl⟩ ⟨rfl, rfl⟩ hl.1 (Nat.le_of_ble_eq_true rfl) dX6_markOfStew_14 (fun H locs hw => ?_) rfl rfl
  refine lv_iconst (v := 2) hx hb dX6_markOfStew_17 (by decide) ?_
  refine lv_imul hx hb dX6_markOfStew_18 ?_
  exact x_iret B hw hf dX6_markOfStew_19

set_option maxHeartbeats 4000000 in
theorem jSmoke_markOfStew_ok {x1 : Int32} {S SF : St} {r : Int32} (hf : jSmoke_markOfStew x1 S = some (r, SF)) : XMet l D 40 (cellC T q) q T (ExC aK aV) yX6_markOfStew cX6_markOfStew 2 (some .int) ({ frames := 1, cells := 0, slots := 0, locals := 21 }) [.ref (q 0), .int x1] S (some (.int r)) SF := by
  refine x_enter (own := RX6) (by decide +kernel) rfl (Nat.le_of_ble_eq_true rfl) (fun p e s m below meth c A B ls hw hl0 => ?_)
  have hl : lv_has ls 2 [(0, .ref (q 0)), (1, .int x1)] := hl0
  exact jSmoke_markOfStew_b0_ok B x1 S hf hw hl

set_option maxHeartbeats 4000000 in
theorem jSmoke_markOfRoast_b0_ok (B : XB p s m args meth c A cX6_markOfRoast 2 (some .int) RX6) {SF : St} {r : Int32}  (x1 : Int32) (S : St) {H : Heap} {locs : List Loc} {ls : Array Slot} (hf : jSmoke_markOfRoast x1 S = some (r, SF)) (hw : Xw D 40 (cellC T q) q T (ExC aK aV) A s S H locs) (hl : lv_has ls 2 [(0, .ref (q 0)), (1, .int x1)]) : XG p l e ({ frames := 1, cells := 0, slots := 0, locals := 21 }) s m args below meth c D 40 (cellC T q) q T A SF (some (.int r)) H locs 0 ls [] := by
  unfold jSmoke_markOfRoast at hf
  obtain ⟨hx, hb, hr, hml, hown, hts, hlk, hA⟩ := id B
  refine lv_aload_n hx hb dX6_markOfRoast_0 rfl (lv_at hl 0 rfl) ?_
  refine lv_dup hx hb dX6_markOfRoast_1 rfl ?_
  refine x_get B hw (Tb := TX6) inX6 0 (by decide) rfl rfl 9 (by decide) u239 (fun _ h => h) rfl dX6_markOfRoast_2 ?_
  refine lv_ldc2 (v := 100) hx hb hown (hts _ u649) dX6_markOfRoast_5 ?_
  refine lv_ladd hx hb dX6_markOfRoast_8 ?_
  refine x_put B hw (Tb := TX6) inX6 tyX6 tyX6_ok nmX6 0 (by decide) rfl rfl 9 (by decide) u239 (fun _ h => h) rfl (ty := .long) (by decide +kernel) rfl rfl (Nat.le_of_ble_eq_true rfl) (S1 := upL S 0 9 ((S.2 0 9) + 100)) rfl (fun _ _ => rfl) upL_o dX6_markOfRoast_9 hf (fun S1 H locs hw hf => ?_)
  refine lv_aload_n hx hb dX6_markOfRoast_12 rfl (lv_at hl 0 rfl) ?_
  refine lv_iload_n hx hb dX6_markOfRoast_13 rfl (lv_at hl 1 rfl) ?_
  obtain ⟨v3, S2, hc, hf⟩ := x_bd_some hf
  refine x_callV B ExC_ok hw 0 (by decide) rfl rfl (As := [.int x1]) (rest := []) (st1 := [.int v3]) (jSmoke_markOfDish_ok hc) u636 u638 u10 u38 u639 hdX6_markOfDish rfl ⟨Nat.le_of_ble_eq_true rfl, Nat.le_of_ble_eq_true rfl⟩ ⟨rfl, rfl⟩ hl.1 (Nat.le_of_ble_eq_true rfl) dX6_markOfRoast_14 (fun H locs hw => ?_) rfl rfl
  refine lv_aload_n hx hb dX6_markOfRoast_17 rfl (lv_at hl 0 rfl) ?_
  refine x_get B hw (Tb := TX6) inX6 0 (by decide) rfl rfl 2 (by decide) u232 (fun _ h => h) rfl dX6_markOfRoast_18 ?_
  refine x_get B hw (Tb := TX1) inX1 14 (by decide) rfl rfl 2 (by decide) u108 (fun _ h => h) rfl dX6_markOfRoast_21 ?_
  refine lv_iload_n hx hb dX6_markOfRoast_24 rfl (lv_at hl 1 rfl) ?_
  refine x_iald B hw 17 (by decide) rfl dX6_markOfRoast_25 hf (fun v4 hf => ?_)
  refine lv_iadd hx hb dX6_markOfRoast_26 ?_
  exact x_iret B hw hf dX6_markOfRoast_27

set_option maxHeartbeats 4000000 in
theorem jSmoke_markOfRoast_ok {x1 : Int32} {S SF : St} {r : Int32} (hf : jSmoke_markOfRoast x1 S = some (r, SF)) : XMet l D 40 (cellC T q) q T (ExC aK aV) yX6_markOfRoast cX6_markOfRoast 2 (some .int) ({ frames := 1, cells := 0, slots := 0, locals := 21 }) [.ref (q 0), .int x1] S (some (.int r)) SF := by
  refine x_enter (own := RX6) (by decide +kernel) rfl (Nat.le_of_ble_eq_true rfl) (fun p e s m below meth c A B ls hw hl0 => ?_)
  have hl : lv_has ls 2 [(0, .ref (q 0)), (1, .int x1)] := hl0
  exact jSmoke_markOfRoast_b0_ok B x1 S hf hw hl

set_option maxHeartbeats 4000000 in
theorem jSmoke_markOfBrides_b0_ok (B : XB p s m args meth c A cX6_markOfBrides 2 (some .int) RX6) {SF : St} {r : Int32}  (x1 : Int32) (S : St) {H : Heap} {locs : List Loc} {ls : Array Slot} (hf : jSmoke_markOfBrides x1 S = some (r, SF)) (hw : Xw D 40 (cellC T q) q T (ExC aK aV) A s S H locs) (hl : lv_has ls 2 [(0, .ref (q 0)), (1, .int x1)]) : XG p l e ({ frames := 2, cells := 0, slots := 0, locals := 42 }) s m args below meth c D 40 (cellC T q) q T A SF (some (.int r)) H locs 0 ls [] := by
  unfold jSmoke_markOfBrides at hf
  obtain ⟨hx, hb, hr, hml, hown, hts, hlk, hA⟩ := id B
  refine lv_aload_n hx hb dX6_markOfBrides_0 rfl (lv_at hl 0 rfl) ?_
  refine lv_dup hx hb dX6_markOfBrides_1 rfl ?_
  refine x_get B hw (Tb := TX6) inX6 0 (by decide) rfl rfl 9 (by decide) u239 (fun _ h => h) rfl dX6_markOfBrides_2 ?_
  refine lv_ldc2 (v := 1000) hx hb hown (hts _ u563) dX6_markOfBrides_5 ?_
  refine lv_ladd hx hb dX6_markOfBrides_8 ?_
  refine x_put B hw (Tb := TX6) inX6 tyX6 tyX6_ok nmX6 0 (by decide) rfl rfl 9 (by decide) u239 (fun _ h => h) rfl (ty := .long) (by decide +kernel) rfl rfl (Nat.le_of_ble_eq_true rfl) (S1 := upL S 0 9 ((S.2 0 9) + 1000)) rfl (fun _ _ => rfl) upL_o dX6_markOfBrides_9 hf (fun S1 H locs hw hf => ?_)
  refine lv_aload_n hx hb dX6_markOfBrides_12 rfl (lv_at hl 0 rfl) ?_
  refine lv_iload_n hx hb dX6_markOfBrides_13 rfl (lv_at hl 1 rfl) ?_
  obtain ⟨v3, S2, hc, hf⟩ := x_bd_some hf
  refine x_callV B ExC_ok hw 0 (by decide) rfl rfl (As := [.int x1]) (rest := []) (st1 := [.int v3]) (jSmoke_markOfStew_ok hc) u640 u642 u11 u38 u643 hdX6_markOfStew rfl ⟨Nat.le_of_ble_eq_true rfl, Nat.le_of_ble_eq_true rfl⟩ ⟨rfl, rfl⟩ hl.1 (Nat.le_of_ble_eq_true rfl) dX6_markOfBrides_14 (fun H locs hw => ?_) rfl rfl
  refine lv_iload_n hx hb dX6_markOfBrides_17 rfl (lv_at hl 1 rfl) ?_
  refine lv_iadd hx hb dX6_markOfBrides_18 ?_
  exact x_iret B hw hf dX6_markOfBrides_19

set_option maxHeartbeats 4000000 in
theorem jSmoke_markOfBrides_ok {x1 : Int32} {S SF : St} {r : Int32} (hf : jSmoke_markOfBrides x1 S = some (r, SF)) : XMet l D 40 (cellC T q) q T (ExC aK aV) yX6_markOfBrides cX6_markOfBrides 2 (some .int) ({ frames := 2, cells := 0, slots := 0, locals := 42 }) [.ref (q 0), .int x1] S (some (.int r)) SF := by
  refine x_enter (own := RX6) (by decide +kernel) rfl (Nat.le_of_ble_eq_true rfl) (fun p e s m below meth c A B ls hw hl0 => ?_)
  have hl : lv_has ls 2 [(0, .ref (q 0)), (1, .int x1)] := hl0
  exact jSmoke_markOfBrides_b0_ok B x1 S hf hw hl

set_option maxHeartbeats 4000000 in
theorem jSmoke_markOfPoor_b0_ok (B : XB p s m args meth c A cX6_markOfPoor 2 (some .int) RX6) {SF : St} {r : Int32}  (x1 : Int32) (S : St) {H : Heap} {locs : List Loc} {ls : Array Slot} (hf : jSmoke_markOfPoor x1 S = some (r, SF)) (hw : Xw D 40 (cellC T q) q T (ExC aK aV) A s S H locs) (hl : lv_has ls 2 [(0, .ref (q 0)), (1, .int x1)]) : XG p l e ({ frames := 2, cells := 0, slots := 0, locals := 42 }) s m args below meth c D 40 (cellC T q) q T A SF (some (.int r)) H locs 0 ls [] := by
  unfold jSmoke_markOfPoor at hf
  obtain ⟨hx, hb, hr, hml, hown, hts, hlk, hA⟩ := id B
  refine lv_aload_n hx hb dX6_markOfPoor_0 rfl (lv_at hl 0 rfl) ?_
  refine lv_dup hx hb dX6_markOfPoor_1 rfl ?_
  refine x_get B hw (Tb := TX6) inX6 0 (by decide) rfl rfl 9 (by decide) u239 (fun _ h => h) rfl dX6_markOfPoor_2 ?_
  refine lv_ldc2 (v := 10000) hx hb hown (hts _ u658) dX6_markOfPoor_5 ?_
  refine lv_ladd hx hb dX6_markOfPoor_8 ?_
  refine x_put B hw (Tb := TX6) inX6 tyX6 tyX6_ok nmX6 0 (by decide) rfl rfl 9 (by decide) u239 (fun _ h => h) rfl (ty := .long) (by decide +kernel) rfl rfl (Nat.le_of_ble_eq_true rfl) (S1 := upL S 0 9 ((S.2 0 9) + 10000)) rfl (fun _ _ => rfl) upL_o dX6_markOfPoor_9 hf (fun S1 H locs hw hf => ?_)
  refine lv_aload_n hx hb dX6_markOfPoor_12 rfl (lv_at hl 0 rfl) ?_
  refine lv_iload_n hx hb dX6_markOfPoor_13 rfl (lv_at hl 1 rfl) ?_
  obtain ⟨v3, S2, hc, hf⟩ := x_bd_some hf
  refine x_callV B ExC_ok hw 0 (by decide) rfl rfl (As := [.int x1]) (rest := []) (st1 := [.int v3]) (jSmoke_markOfRoast_ok hc) u645 u647 u12 u38 u648 hdX6_markOfRoast rfl ⟨Nat.le_of_ble_eq_true rfl, Nat.le_of_ble_eq_true rfl⟩ ⟨rfl, rfl⟩ hl.1 (Nat.le_of_ble_eq_true rfl) dX6_markOfPoor_14 (fun H locs hw => ?_) rfl rfl
  refine lv_aload_n hx hb dX6_markOfPoor_17 rfl (lv_at hl 0 rfl) ?_
  refine x_get B hw (Tb := TX6) inX6 0 (by decide) rfl rfl 2 (by decide) u232 (fun _ h => h) rfl dX6_markOfPoor_18 ?_
  refine x_get B hw (Tb := TX1) inX1 14 (by decide) rfl rfl 3 (by decide) u111 (fun _ h => h) rfl dX6_markOfPoor_21 ?_
  refine lv_iload_n hx hb dX6_markOfPoor_24 rfl (lv_at hl 1 rfl) ?_
  refine x_iald B hw 18 (by decide) rfl dX6_markOfPoor_25 hf (fun v4 hf => ?_)
  refine lv_isub hx hb dX6_markOfPoor_26 ?_
  exact x_iret B hw hf dX6_markOfPoor_27

set_option maxHeartbeats 4000000 in
theorem jSmoke_markOfPoor_ok {x1 : Int32} {S SF : St} {r : Int32} (hf : jSmoke_markOfPoor x1 S = some (r, SF)) : XMet l D 40 (cellC T q) q T (ExC aK aV) yX6_markOfPoor cX6_markOfPoor 2 (some .int) ({ frames := 2, cells := 0, slots := 0, locals := 42 }) [.ref (q 0), .int x1] S (some (.int r)) SF := by
  refine x_enter (own := RX6) (by decide +kernel) rfl (Nat.le_of_ble_eq_true rfl) (fun p e s m below meth c A B ls hw hl0 => ?_)
  have hl : lv_has ls 2 [(0, .ref (q 0)), (1, .int x1)] := hl0
  exact jSmoke_markOfPoor_b0_ok B x1 S hf hw hl

set_option maxHeartbeats 4000000 in
theorem jSmoke_markOfBurnt_b0_ok (B : XB p s m args meth c A cX6_markOfBurnt 2 (some .int) RX6) {SF : St} {r : Int32}  (x1 : Int32) (S : St) {H : Heap} {locs : List Loc} {ls : Array Slot} (hf : jSmoke_markOfBurnt x1 S = some (r, SF)) (hw : Xw D 40 (cellC T q) q T (ExC aK aV) A s S H locs) (hl : lv_has ls 2 [(0, .ref (q 0)), (1, .int x1)]) : XG p l e ({ frames := 1, cells := 0, slots := 0, locals := 21 }) s m args below meth c D 40 (cellC T q) q T A SF (some (.int r)) H locs 0 ls [] := by
  unfold jSmoke_markOfBurnt at hf
  obtain ⟨hx, hb, hr, hml, hown, hts, hlk, hA⟩ := id B
  refine lv_aload_n hx hb dX6_markOfBurnt_0 rfl (lv_at hl 0 rfl) ?_
  refine lv_dup hx hb dX6_markOfBurnt_1 rfl ?_
  refine x_get B hw (Tb := TX6) inX6 0 (by decide) rfl rfl 9 (by decide) u239 (fun _ h => h) rfl dX6_markOfBurnt_2 ?_
  refine lv_ldc2 (v := 100000) hx hb hown (hts _ u663) dX6_markOfBurnt_5 ?_
  refine lv_ladd hx hb dX6_markOfBurnt_8 ?_
  refine x_put B hw (Tb := TX6) inX6 tyX6 tyX6_ok nmX6 0 (by decide) rfl rfl 9 (by decide) u239 (fun _ h => h) rfl (ty := .long) (by decide +kernel) rfl rfl (Nat.le_of_ble_eq_true rfl) (S1 := upL S 0 9 ((S.2 0 9) + 100000)) rfl (fun _ _ => rfl) upL_o dX6_markOfBurnt_9 hf (fun S1 H locs hw hf => ?_)
  refine lv_aload_n hx hb dX6_markOfBurnt_12 rfl (lv_at hl 0 rfl) ?_
  refine lv_iload_n hx hb dX6_markOfBurnt_13 rfl (lv_at hl 1 rfl) ?_
  obtain ⟨v3, S2, hc, hf⟩ := x_bd_some hf
  refine x_callV B ExC_ok hw 0 (by decide) rfl rfl (As := [.int x1]) (rest := []) (st1 := [.int v3]) (jSmoke_markOfDish_ok hc) u636 u638 u10 u38 u639 hdX6_markOfDish rfl ⟨Nat.le_of_ble_eq_true rfl, Nat.le_of_ble_eq_true rfl⟩ ⟨rfl, rfl⟩ hl.1 (Nat.le_of_ble_eq_true rfl) dX6_markOfBurnt_14 (fun H locs hw => ?_) rfl rfl
  refine lv_aload_n hx hb dX6_markOfBurnt_17 rfl (lv_at hl 0 rfl) ?_
  refine x_get B hw (Tb := TX6) inX6 0 (by decide) rfl rfl 3 (by decide) u233 (fun _ h => h) rfl dX6_markOfBurnt_18 ?_
  refine x_get B hw (Tb := TX3) inX3 19 (by decide) rfl rfl 4 (by decide) u143 (fun _ h => h) rfl dX6_markOfBurnt_21 ?_
  refine lv_iadd hx hb dX6_markOfBurnt_24 ?_
  exact x_iret B hw hf dX6_markOfBurnt_25

set_option maxHeartbeats 4000000 in
theorem jSmoke_markOfBurnt_ok {x1 : Int32} {S SF : St} {r : Int32} (hf : jSmoke_markOfBurnt x1 S = some (r, SF)) : XMet l D 40 (cellC T q) q T (ExC aK aV) yX6_markOfBurnt cX6_markOfBurnt 2 (some .int) ({ frames := 1, cells := 0, slots := 0, locals := 21 }) [.ref (q 0), .int x1] S (some (.int r)) SF := by
  refine x_enter (own := RX6) (by decide +kernel) rfl (Nat.le_of_ble_eq_true rfl) (fun p e s m below meth c A B ls hw hl0 => ?_)
  have hl : lv_has ls 2 [(0, .ref (q 0)), (1, .int x1)] := hl0
  exact jSmoke_markOfBurnt_b0_ok B x1 S hf hw hl

set_option maxHeartbeats 4000000 in
theorem jSmoke_mark_b0_ok (B : XB p s m args meth c A cX6_mark 3 (some .int) RX6) {SF : St} {r : Int32}  (x1 : Int32) (x2 : Int32) (S : St) {H : Heap} {locs : List Loc} {ls : Array Slot} (hf : jSmoke_mark x1 x2 S = some (r, SF)) (hw : Xw D 40 (cellC T q) q T (ExC aK aV) A s S H locs) (hl : lv_has ls 3 [(0, .ref (q 0)), (1, .int x1), (2, .int x2)]) : XG p l e ({ frames := 3, cells := 0, slots := 0, locals := 63 }) s m args below meth c D 40 (cellC T q) q T A SF (some (.int r)) H locs 0 ls [] := by
  unfold jSmoke_mark at hf
  obtain ⟨hx, hb, hr, hml, hown, hts, hlk, hA⟩ := id B
  refine lv_aload_n hx hb dX6_mark_0 rfl (lv_at hl 0 rfl) ?_
  refine x_get B hw (Tb := TX6) inX6 0 (by decide) rfl rfl 2 (by decide) u232 (fun _ h => h) rfl dX6_mark_1 ?_
  refine lv_iload_n hx hb dX6_mark_4 rfl (lv_at hl 2 rfl) ?_
  obtain ⟨v2, S1, hc, hf⟩ := x_bd_some hf
  refine x_callV B ExC_ok hw 14 (by decide) rfl rfl (As := [.int x2]) (rest := []) (st1 := [.int v2]) (jMenu_lists_ok hc) u415 u416 u417 u41 u418 hdX1_lists rfl ⟨Nat.le_of_ble_eq_true rfl, Nat.le_of_ble_eq_true rfl⟩ ⟨rfl, rfl⟩ hl.1 (Nat.le_of_ble_eq_true rfl) dX6_mark_5 (fun H locs hw => ?_) rfl rfl
  refine lv_if_ne (tgt := 14) hx hb dX6_mark_8 (by decide) (fun hc => ?_) (fun hc => ?_)
  · have hf := x_neg hc hf
    refine lv_iload_n hx hb dX6_mark_14 rfl (lv_at hl 1 rfl) ?_
    by_cases hc0 : x1 = 0
    · have hf := x_pos hc0 hf
      refine lv_tableIn (off := 37) (tgt := 52) hx hb dX6_mark_15 (by rw [hc0]; decide) (by rw [hc0]; decide) (by rw [hc0]; decide) (by decide) ?_
      refine lv_aload_n hx hb dX6_mark_52 rfl (lv_at hl 0 rfl) ?_
      refine lv_iload_n hx hb dX6_mark_53 rfl (lv_at hl 2 rfl) ?_
      obtain ⟨v4, S3, hc, hf⟩ := x_bd_some hf
      refine x_callV B ExC_ok hw 0 (by decide) rfl rfl (As := [.int x2]) (rest := []) (st1 := [.int v4]) (jSmoke_markOfDish_ok hc) u636 u638 u10 u38 u639 hdX6_markOfDish rfl ⟨Nat.le_of_ble_eq_true rfl, Nat.le_of_ble_eq_true rfl⟩ ⟨rfl, rfl⟩ hl.1 (Nat.le_of_ble_eq_true rfl) dX6_mark_54 (fun H locs hw => ?_) rfl rfl
      exact x_iret B hw hf dX6_mark_57
    have hf := x_neg hc0 hf
    by_cases hc1 : x1 = 1
    · have hf := x_pos hc1 hf
      refine lv_tableIn (off := 43) (tgt := 58) hx hb dX6_mark_15 (by rw [hc1]; decide) (by rw [hc1]; decide) (by rw [hc1]; decide) (by decide) ?_
      refine lv_aload_n hx hb dX6_mark_58 rfl (lv_at hl 0 rfl) ?_
      refine lv_iload_n hx hb dX6_mark_59 rfl (lv_at hl 2 rfl) ?_
      obtain ⟨v6, S5, hc, hf⟩ := x_bd_some hf
      refine x_callV B ExC_ok hw 0 (by decide) rfl rfl (As := [.int x2]) (rest := []) (st1 := [.int v6]) (jSmoke_markOfStew_ok hc) u640 u642 u11 u38 u643 hdX6_markOfStew rfl ⟨Nat.le_of_ble_eq_true rfl, Nat.le_of_ble_eq_true rfl⟩ ⟨rfl, rfl⟩ hl.1 (Nat.le_of_ble_eq_true rfl) dX6_mark_60 (fun H locs hw => ?_) rfl rfl
      exact x_iret B hw hf dX6_mark_63
    have hf := x_neg hc1 hf
    by_cases hc2 : x1 = 2
    · have hf := x_pos hc2 hf
      refine lv_tableIn (off := 49) (tgt := 64) hx hb dX6_mark_15 (by rw [hc2]; decide) (by rw [hc2]; decide) (by rw [hc2]; decide) (by decide) ?_
      refine lv_aload_n hx hb dX6_mark_64 rfl (lv_at hl 0 rfl) ?_
      refine lv_iload_n hx hb dX6_mark_65 rfl (lv_at hl 2 rfl) ?_
      obtain ⟨v8, S7, hc, hf⟩ := x_bd_some hf
      refine x_callV B ExC_ok hw 0 (by decide) rfl rfl (As := [.int x2]) (rest := []) (st1 := [.int v8]) (jSmoke_markOfRoast_ok hc) u645 u647 u12 u38 u648 hdX6_markOfRoast rfl ⟨Nat.le_of_ble_eq_true rfl, Nat.le_of_ble_eq_true rfl⟩ ⟨rfl, rfl⟩ hl.1 (Nat.le_of_ble_eq_true rfl) dX6_mark_66 (fun H locs hw => ?_) rfl rfl
      exact x_iret B hw hf dX6_mark_69
    have hf := x_neg hc2 hf
    by_cases hc3 : x1 = 3
    · have hf := x_pos hc3 hf
      refine lv_tableIn (off := 55) (tgt := 70) hx hb dX6_mark_15 (by rw [hc3]; decide) (by rw [hc3]; decide) (by rw [hc3]; decide) (by decide) ?_
      refine lv_aload_n hx hb dX6_mark_70 rfl (lv_at hl 0 rfl) ?_
      refine lv_iload_n hx hb dX6_mark_71 rfl (lv_at hl 2 rfl) ?_
      obtain ⟨v10, S9, hc, hf⟩ := x_bd_some hf
      refine x_callV B ExC_ok hw 0 (by decide) rfl rfl (As := [.int x2]) (rest := []) (st1 := [.int v10]) (jSmoke_markOfBrides_ok hc) u650 u652 u13 u38 u653 hdX6_markOfBrides rfl ⟨Nat.le_of_ble_eq_true rfl, Nat.le_of_ble_eq_true rfl⟩ ⟨rfl, rfl⟩ hl.1 (Nat.le_of_ble_eq_true rfl) dX6_mark_72 (fun H locs hw => ?_) rfl rfl
      exact x_iret B hw hf dX6_mark_75
    have hf := x_neg hc3 hf
    by_cases hc4 : x1 = 4
    · have hf := x_pos hc4 hf
      refine lv_tableIn (off := 61) (tgt := 76) hx hb dX6_mark_15 (by rw [hc4]; decide) (by rw [hc4]; decide) (by rw [hc4]; decide) (by decide) ?_
      refine lv_aload_n hx hb dX6_mark_76 rfl (lv_at hl 0 rfl) ?_
      refine lv_iload_n hx hb dX6_mark_77 rfl (lv_at hl 2 rfl) ?_
      obtain ⟨v12, S11, hc, hf⟩ := x_bd_some hf
      refine x_callV B ExC_ok hw 0 (by decide) rfl rfl (As := [.int x2]) (rest := []) (st1 := [.int v12]) (jSmoke_markOfPoor_ok hc) u654 u656 u14 u38 u657 hdX6_markOfPoor rfl ⟨Nat.le_of_ble_eq_true rfl, Nat.le_of_ble_eq_true rfl⟩ ⟨rfl, rfl⟩ hl.1 (Nat.le_of_ble_eq_true rfl) dX6_mark_78 (fun H locs hw => ?_) rfl rfl
      exact x_iret B hw hf dX6_mark_81
    have hf := x_neg hc4 hf
    by_cases hc5 : x1 = 5
    · have hf := x_pos hc5 hf
      refine lv_tableIn (off := 67) (tgt := 82) hx hb dX6_mark_15 (by rw [hc5]; decide) (by rw [hc5]; decide) (by rw [hc5]; decide) (by decide) ?_
      refine lv_aload_n hx hb dX6_mark_82 rfl (lv_at hl 0 rfl) ?_
      refine lv_iload_n hx hb dX6_mark_83 rfl (lv_at hl 2 rfl) ?_
      obtain ⟨v14, S13, hc, hf⟩ := x_bd_some hf
      refine x_callV B ExC_ok hw 0 (by decide) rfl rfl (As := [.int x2]) (rest := []) (st1 := [.int v14]) (jSmoke_markOfBurnt_ok hc) u659 u661 u15 u38 u662 hdX6_markOfBurnt rfl ⟨Nat.le_of_ble_eq_true rfl, Nat.le_of_ble_eq_true rfl⟩ ⟨rfl, rfl⟩ hl.1 (Nat.le_of_ble_eq_true rfl) dX6_mark_84 (fun H locs hw => ?_) rfl rfl
      exact x_iret B hw hf dX6_mark_87
    have hf := x_neg hc5 hf
    have hd0 : ¬ Int32.toInt x1 = 0 := x_ne hc0 (by decide)
    have hd1 : ¬ Int32.toInt x1 = 1 := x_ne hc1 (by decide)
    have hd2 : ¬ Int32.toInt x1 = 2 := x_ne hc2 (by decide)
    have hd3 : ¬ Int32.toInt x1 = 3 := x_ne hc3 (by decide)
    have hd4 : ¬ Int32.toInt x1 = 4 := x_ne hc4 (by decide)
    have hd5 : ¬ Int32.toInt x1 = 5 := x_ne hc5 (by decide)
    refine lv_tableOut (tgt := 88) hx hb dX6_mark_15 (by omega) (by decide) ?_
    refine lv_ldc (v := (-1000000)) hx hb hown (hts _ u635) dX6_mark_88 ?_
    exact x_iret B hw hf dX6_mark_90
  · have hf := x_pos hc hf
    refine lv_ldc (v := (-1000000)) hx hb hown (hts _ u635) dX6_mark_11 ?_
    exact x_iret B hw hf dX6_mark_13

set_option maxHeartbeats 4000000 in
theorem jSmoke_mark_ok {x1 : Int32} {x2 : Int32} {S SF : St} {r : Int32} (hf : jSmoke_mark x1 x2 S = some (r, SF)) : XMet l D 40 (cellC T q) q T (ExC aK aV) yX6_mark cX6_mark 3 (some .int) ({ frames := 3, cells := 0, slots := 0, locals := 63 }) [.ref (q 0), .int x1, .int x2] S (some (.int r)) SF := by
  refine x_enter (own := RX6) (by decide +kernel) rfl (Nat.le_of_ble_eq_true rfl) (fun p e s m below meth c A B ls hw hl0 => ?_)
  have hl : lv_has ls 3 [(0, .ref (q 0)), (1, .int x1), (2, .int x2)] := hl0
  exact jSmoke_mark_b0_ok B x1 x2 S hf hw hl

set_option maxHeartbeats 4000000 in
theorem jSmoke_imageOf_b0_ok (B : XB p s m args meth c A cX6_imageOf 2 (some (.object "SmokeTalk$Suppers")) RX6) {SF : St} {r : Nat}  (x1 : Int32) (S : St) {H : Heap} {locs : List Loc} {ls : Array Slot} (hf : jSmoke_imageOf x1 S = some (r, SF)) (hw : Xw D 40 (cellC T q) q T (ExC aK aV) A s S H locs) (hl : lv_has ls 2 [(0, .ref (q 0)), (1, .int x1)]) : XG p l e ({ frames := 0, cells := 0, slots := 0, locals := 0 }) s m args below meth c D 40 (cellC T q) q T A SF (some (.ref (q r))) H locs 0 ls [] := by
  unfold jSmoke_imageOf at hf
  obtain ⟨hx, hb, hr, hml, hown, hts, hlk, hA⟩ := id B
  refine lv_iload_n hx hb dX6_imageOf_0 rfl (lv_at hl 1 rfl) ?_
  refine lv_if_ne (tgt := 11) hx hb dX6_imageOf_1 (by decide) (fun hc => ?_) (fun hc => ?_)
  · have hf := x_neg hc hf
    refine lv_aload_n hx hb dX6_imageOf_11 rfl (lv_at hl 0 rfl) ?_
    refine x_get B hw (Tb := TX6) inX6 0 (by decide) rfl rfl 5 (by decide) u235 (fun _ h => h) rfl dX6_imageOf_12 ?_
    exact x_aret ⟨_, rfl⟩ B hw hf dX6_imageOf_15
  · have hf := x_pos hc hf
    refine lv_aload_n hx hb dX6_imageOf_4 rfl (lv_at hl 0 rfl) ?_
    refine x_get B hw (Tb := TX6) inX6 0 (by decide) rfl rfl 4 (by decide) u234 (fun _ h => h) rfl dX6_imageOf_5 ?_
    refine lv_goto (tgt := 15) hx hb dX6_imageOf_8 (by decide) ?_
    exact x_aret ⟨_, rfl⟩ B hw hf dX6_imageOf_15

set_option maxHeartbeats 4000000 in
theorem jSmoke_imageOf_ok {x1 : Int32} {S SF : St} {r : Nat} (hf : jSmoke_imageOf x1 S = some (r, SF)) : XMet l D 40 (cellC T q) q T (ExC aK aV) yX6_imageOf cX6_imageOf 2 (some (.object "SmokeTalk$Suppers")) ({ frames := 0, cells := 0, slots := 0, locals := 0 }) [.ref (q 0), .int x1] S (some (.ref (q r))) SF := by
  refine x_enter (own := RX6) (by decide +kernel) rfl (Nat.le_of_ble_eq_true rfl) (fun p e s m below meth c A B ls hw hl0 => ?_)
  have hl : lv_has ls 2 [(0, .ref (q 0)), (1, .int x1)] := hl0
  exact jSmoke_imageOf_b0_ok B x1 S hf hw hl

set_option maxHeartbeats 4000000 in
theorem jSuppers_become_23_19_b60_ok (B : XB p s m args meth c A cX3_become 3 none RX3) {SF : St} (K60 : Int32 → St → Option (St)) (hK60 : ∀ (x2 : Int32) (S : St) (H : Heap) (locs : List Loc) (ls : Array Slot), K60 x2 S = some SF → Xw D 40 (cellC T q) q T (ExC aK aV) A s S H locs → lv_has ls 3 [(0, .ref (q 23)), (1, .ref (q 19)), (2, .int x2)] → XG p l e ({ frames := 0, cells := 0, slots := 0, locals := 0 }) s m args below meth c D 40 (cellC T q) q T A SF none H locs 60 ls [])  (x2 : Int32) (S : St) {H : Heap} {locs : List Loc} {ls : Array Slot} (hf : jSuppers_become_23_19_b60 K60 x2 S = some SF) (hw : Xw D 40 (cellC T q) q T (ExC aK aV) A s S H locs) (hl : lv_has ls 3 [(0, .ref (q 23)), (1, .ref (q 19)), (2, .int x2)]) : XG p l e ({ frames := 0, cells := 0, slots := 0, locals := 0 }) s m args below meth c D 40 (cellC T q) q T A SF none H locs 60 ls [] := by
  unfold jSuppers_become_23_19_b60 at hf
  obtain ⟨hx, hb, hr, hml, hown, hts, hlk, hA⟩ := id B
  refine lv_iload_n hx hb dX3_become_60 rfl (lv_at hl 2 rfl) ?_
  refine lv_bipush (v := 20) hx hb dX3_become_61 (by decide) ?_
  refine lv_icmp_ge (tgt := 96) hx hb dX3_become_63 (by decide) (fun hc => ?_) (fun hc => ?_)
  · have hf := x_pos hc hf
    exact x_vret B hw hf dX3_become_96
  · have hf := x_neg hc hf
    refine lv_aload_n hx hb dX3_become_66 rfl (lv_at hl 0 rfl) ?_
    refine x_get B hw (Tb := TX3) inX3 23 (by decide) rfl rfl 1 (by decide) u134 (fun _ h => h) rfl dX3_become_67 ?_
    refine lv_iload_n hx hb dX3_become_70 rfl (lv_at hl 2 rfl) ?_
    refine lv_aload_n hx hb dX3_become_71 rfl (lv_at hl 1 rfl) ?_
    refine x_get B hw (Tb := TX3) inX3 19 (by decide) rfl rfl 1 (by decide) u134 (fun _ h => h) rfl dX3_become_72 ?_
    refine lv_iload_n hx hb dX3_become_75 rfl (lv_at hl 2 rfl) ?_
    refine x_iald B hw 21 (by decide) rfl dX3_become_76 hf (fun v5 hf => ?_)
    refine x_iast B hw 25 (by decide) (fun _ _ => rfl) dX3_become_77 hf (fun S6 H locs hw hf => ?_)
    refine lv_aload_n hx hb dX3_become_78 rfl (lv_at hl 0 rfl) ?_
    refine x_get B hw (Tb := TX3) inX3 23 (by decide) rfl rfl 2 (by decide) u136 (fun _ h => h) rfl dX3_become_79 ?_
    refine lv_iload_n hx hb dX3_become_82 rfl (lv_at hl 2 rfl) ?_
    refine lv_aload_n hx hb dX3_become_83 rfl (lv_at hl 1 rfl) ?_
    refine x_get B hw (Tb := TX3) inX3 19 (by decide) rfl rfl 2 (by decide) u136 (fun _ h => h) rfl dX3_become_84 ?_
    refine lv_iload_n hx hb dX3_become_87 rfl (lv_at hl 2 rfl) ?_
    refine x_iald B hw 22 (by decide) rfl dX3_become_88 hf (fun v7 hf => ?_)
    refine x_iast B hw 26 (by decide) (fun _ _ => rfl) dX3_become_89 hf (fun S8 H locs hw hf => ?_)
    refine lv_iinc (v := x2 + 1) (lv' := [(2, .int (x2 + 1)), (0, .ref (q 23)), (1, .ref (q 19))]) hx hb dX3_become_90 hl (k := 2) rfl xi_1 (by decide) rfl (fun ls hl => ?_)
    refine lv_goto (tgt := 60) hx hb dX3_become_93 (by decide) ?_
    exact hK60 (x2 + 1) S8 _ _ _ hf hw (lv_sub hl [1, 2, 0] rfl)

theorem jSuppers_become_23_19_h60_ok (B : XB p s m args meth c A cX3_become 3 none RX3) {SF : St} : ∀ (n : Nat) (x2 : Int32) (S : St) (H : Heap) (locs : List Loc) (ls : Array Slot), jSuppers_become_23_19_h60 n x2 S = some SF → Xw D 40 (cellC T q) q T (ExC aK aV) A s S H locs → lv_has ls 3 [(0, .ref (q 23)), (1, .ref (q 19)), (2, .int x2)] → XG p l e ({ frames := 0, cells := 0, slots := 0, locals := 0 }) s m args below meth c D 40 (cellC T q) q T A SF none H locs 60 ls [] := by
  intro n
  induction n with
  | zero =>
    intro x2 S H locs ls hf hw hl
    rw [jSuppers_become_23_19_h60] at hf
    cases hf
  | succ n ih =>
    intro x2 S H locs ls hf hw hl
    rw [jSuppers_become_23_19_h60] at hf
    exact jSuppers_become_23_19_b60_ok B (jSuppers_become_23_19_h60 n) ih x2 S hf hw hl

set_option maxHeartbeats 4000000 in
theorem jSuppers_become_23_19_b34_ok (B : XB p s m args meth c A cX3_become 3 none RX3) {SF : St} (K34 : Int32 → St → Option (St)) (hK34 : ∀ (x2 : Int32) (S : St) (H : Heap) (locs : List Loc) (ls : Array Slot), K34 x2 S = some SF → Xw D 40 (cellC T q) q T (ExC aK aV) A s S H locs → lv_has ls 3 [(0, .ref (q 23)), (1, .ref (q 19)), (2, .int x2)] → XG p l e ({ frames := 0, cells := 0, slots := 0, locals := 0 }) s m args below meth c D 40 (cellC T q) q T A SF none H locs 34 ls [])  (x2 : Int32) (S : St) {H : Heap} {locs : List Loc} {ls : Array Slot} (hf : jSuppers_become_23_19_b34 K34 x2 S = some SF) (hw : Xw D 40 (cellC T q) q T (ExC aK aV) A s S H locs) (hl : lv_has ls 3 [(0, .ref (q 23)), (1, .ref (q 19)), (2, .int x2)]) : XG p l e ({ frames := 0, cells := 0, slots := 0, locals := 0 }) s m args below meth c D 40 (cellC T q) q T A SF none H locs 34 ls [] := by
  unfold jSuppers_become_23_19_b34 at hf
  obtain ⟨hx, hb, hr, hml, hown, hts, hlk, hA⟩ := id B
  refine lv_iload_n hx hb dX3_become_34 rfl (lv_at hl 2 rfl) ?_
  refine lv_bipush (v := 30) hx hb dX3_become_35 (by decide) ?_
  refine lv_icmp_ge (tgt := 58) hx hb dX3_become_37 (by decide) (fun hc => ?_) (fun hc => ?_)
  · have hf := x_pos hc hf
    refine lv_iconst (v := 0) hx hb dX3_become_58 (by decide) ?_
    refine lv_istore_n (lv' := [(2, .int 0), (0, .ref (q 23)), (1, .ref (q 19))]) hx hb dX3_become_59 rfl hl (by decide) rfl (fun ls hl => ?_)
    exact jSuppers_become_23_19_h60_ok B FU 0 S _ _ _ hf hw (lv_sub hl [1, 2, 0] rfl)
  · have hf := x_neg hc hf
    refine lv_aload_n hx hb dX3_become_40 rfl (lv_at hl 0 rfl) ?_
    refine x_get B hw (Tb := TX3) inX3 23 (by decide) rfl rfl 0 (by decide) u133 (fun _ h => h) rfl dX3_become_41 ?_
    refine lv_iload_n hx hb dX3_become_44 rfl (lv_at hl 2 rfl) ?_
    refine lv_aload_n hx hb dX3_become_45 rfl (lv_at hl 1 rfl) ?_
    refine x_get B hw (Tb := TX3) inX3 19 (by decide) rfl rfl 0 (by decide) u133 (fun _ h => h) rfl dX3_become_46 ?_
    refine lv_iload_n hx hb dX3_become_49 rfl (lv_at hl 2 rfl) ?_
    refine x_iald B hw 20 (by decide) rfl dX3_become_50 hf (fun v9 hf => ?_)
    refine x_iast B hw 24 (by decide) (fun _ _ => rfl) dX3_become_51 hf (fun S10 H locs hw hf => ?_)
    refine lv_iinc (v := x2 + 1) (lv' := [(2, .int (x2 + 1)), (0, .ref (q 23)), (1, .ref (q 19))]) hx hb dX3_become_52 hl (k := 2) rfl xi_1 (by decide) rfl (fun ls hl => ?_)
    refine lv_goto (tgt := 34) hx hb dX3_become_55 (by decide) ?_
    exact hK34 (x2 + 1) S10 _ _ _ hf hw (lv_sub hl [1, 2, 0] rfl)

theorem jSuppers_become_23_19_h34_ok (B : XB p s m args meth c A cX3_become 3 none RX3) {SF : St} : ∀ (n : Nat) (x2 : Int32) (S : St) (H : Heap) (locs : List Loc) (ls : Array Slot), jSuppers_become_23_19_h34 n x2 S = some SF → Xw D 40 (cellC T q) q T (ExC aK aV) A s S H locs → lv_has ls 3 [(0, .ref (q 23)), (1, .ref (q 19)), (2, .int x2)] → XG p l e ({ frames := 0, cells := 0, slots := 0, locals := 0 }) s m args below meth c D 40 (cellC T q) q T A SF none H locs 34 ls [] := by
  intro n
  induction n with
  | zero =>
    intro x2 S H locs ls hf hw hl
    rw [jSuppers_become_23_19_h34] at hf
    cases hf
  | succ n ih =>
    intro x2 S H locs ls hf hw hl
    rw [jSuppers_become_23_19_h34] at hf
    exact jSuppers_become_23_19_b34_ok B (jSuppers_become_23_19_h34 n) ih x2 S hf hw hl

set_option maxHeartbeats 4000000 in
theorem jSuppers_become_23_19_b0_ok (B : XB p s m args meth c A cX3_become 3 none RX3) {SF : St}  (S : St) {H : Heap} {locs : List Loc} {ls : Array Slot} (hf : jSuppers_become_23_19 S = some SF) (hw : Xw D 40 (cellC T q) q T (ExC aK aV) A s S H locs) (hl : lv_has ls 3 [(0, .ref (q 23)), (1, .ref (q 19))]) : XG p l e ({ frames := 0, cells := 0, slots := 0, locals := 0 }) s m args below meth c D 40 (cellC T q) q T A SF none H locs 0 ls [] := by
  unfold jSuppers_become_23_19 at hf
  obtain ⟨hx, hb, hr, hml, hown, hts, hlk, hA⟩ := id B
  refine lv_aload_n hx hb dX3_become_0 rfl (lv_at hl 0 rfl) ?_
  refine lv_aload_n hx hb dX3_become_1 rfl (lv_at hl 1 rfl) ?_
  refine x_get B hw (Tb := TX3) inX3 19 (by decide) rfl rfl 3 (by decide) u138 (fun _ h => h) rfl dX3_become_2 ?_
  refine x_put B hw (Tb := TX3) inX3 tyX3 tyX3_ok nmX3 23 (by decide) rfl rfl 3 (by decide) u138 (fun _ h => h) rfl (ty := .int) (by decide +kernel) rfl rfl (Nat.le_of_ble_eq_true rfl) (S1 := upI S 23 3 (S.1 19 3)) rfl upI_o (fun _ _ => rfl) dX3_become_5 hf (fun S1 H locs hw hf => ?_)
  refine lv_aload_n hx hb dX3_become_8 rfl (lv_at hl 0 rfl) ?_
  refine lv_aload_n hx hb dX3_become_9 rfl (lv_at hl 1 rfl) ?_
  refine x_get B hw (Tb := TX3) inX3 19 (by decide) rfl rfl 4 (by decide) u141 (fun _ h => h) rfl dX3_become_10 ?_
  refine x_put B hw (Tb := TX3) inX3 tyX3 tyX3_ok nmX3 23 (by decide) rfl rfl 4 (by decide) u141 (fun _ h => h) rfl (ty := .int) (by decide +kernel) rfl rfl (Nat.le_of_ble_eq_true rfl) (S1 := upI S1 23 4 (S1.1 19 4)) rfl upI_o (fun _ _ => rfl) dX3_become_13 hf (fun S2 H locs hw hf => ?_)
  refine lv_aload_n hx hb dX3_become_16 rfl (lv_at hl 0 rfl) ?_
  refine lv_aload_n hx hb dX3_become_17 rfl (lv_at hl 1 rfl) ?_
  refine x_get B hw (Tb := TX3) inX3 19 (by decide) rfl rfl 5 (by decide) u144 (fun _ h => h) rfl dX3_become_18 ?_
  refine x_put B hw (Tb := TX3) inX3 tyX3 tyX3_ok nmX3 23 (by decide) rfl rfl 5 (by decide) u144 (fun _ h => h) rfl (ty := .int) (by decide +kernel) rfl rfl (Nat.le_of_ble_eq_true rfl) (S1 := upI S2 23 5 (S2.1 19 5)) rfl upI_o (fun _ _ => rfl) dX3_become_21 hf (fun S3 H locs hw hf => ?_)
  refine lv_aload_n hx hb dX3_become_24 rfl (lv_at hl 0 rfl) ?_
  refine lv_aload_n hx hb dX3_become_25 rfl (lv_at hl 1 rfl) ?_
  refine x_get B hw (Tb := TX3) inX3 19 (by decide) rfl rfl 6 (by decide) u147 (fun _ h => h) rfl dX3_become_26 ?_
  refine x_put B hw (Tb := TX3) inX3 tyX3 tyX3_ok nmX3 23 (by decide) rfl rfl 6 (by decide) u147 (fun _ h => h) rfl (ty := .int) (by decide +kernel) rfl rfl (Nat.le_of_ble_eq_true rfl) (S1 := upI S3 23 6 (S3.1 19 6)) rfl upI_o (fun _ _ => rfl) dX3_become_29 hf (fun S4 H locs hw hf => ?_)
  refine lv_iconst (v := 0) hx hb dX3_become_32 (by decide) ?_
  refine lv_istore_n (lv' := [(2, .int 0), (0, .ref (q 23)), (1, .ref (q 19))]) hx hb dX3_become_33 rfl hl (by decide) rfl (fun ls hl => ?_)
  exact jSuppers_become_23_19_h34_ok B FU 0 S4 _ _ _ hf hw (lv_sub hl [1, 2, 0] rfl)

set_option maxHeartbeats 4000000 in
theorem jSuppers_become_23_19_ok {S SF : St} (hf : jSuppers_become_23_19 S = some SF) : XMet l D 40 (cellC T q) q T (ExC aK aV) yX3_become cX3_become 3 none ({ frames := 0, cells := 0, slots := 0, locals := 0 }) [.ref (q 23), .ref (q 19)] S none SF := by
  refine x_enter (own := RX3) (by decide +kernel) rfl (Nat.le_of_ble_eq_true rfl) (fun p e s m below meth c A B ls hw hl0 => ?_)
  have hl : lv_has ls 3 [(0, .ref (q 23)), (1, .ref (q 19))] := hl0
  exact jSuppers_become_23_19_b0_ok B S hf hw hl
end
