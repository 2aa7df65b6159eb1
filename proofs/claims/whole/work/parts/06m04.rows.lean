section
variable {p : Program} {l : Launch} {e : Env} {s : State} {m : MethodId} {args : Array Value} {below : List Frame} {meth : Method} {c : Code} {D : va_G} {q aK aV : Nat → Nat} {T : Nat → ClassId} {A : Nat → Prop}
set_option maxHeartbeats 4000000 in
theorem jMod_chain_b221_ok (B : XB p s m args meth c A cX7_chain 10 (some .long) RX7) {SF : St} {r : Int64} (K85 : Int32 → Int32 → Int32 → Int64 → Int32 → St → Option (Int64 × St)) (hK85 : ∀ (x1 : Int32) (x2 : Int32) (x3 : Int32) (y4 : Int64) (x6 : Int32) (S : St) (H : Heap) (locs : List Loc) (ls : Array Slot), K85 x1 x2 x3 y4 x6 S = some (r, SF) → Xw D 17 (cellM T q) q T ExM A s S H locs → lv_has ls 10 [(0, .ref (q 0)), (1, .int x1), (2, .int x2), (3, .int x3), (4, .long y4), (6, .int x6)] → XG p l e ({ frames := 1, cells := 0, slots := 0, locals := 29 }) s m args below meth c D 17 (cellM T q) q T A SF (some (.long r)) H locs 85 ls []) (K221 : Int32 → Int32 → Int32 → Int64 → Int32 → Int32 → St → Option (Int64 × St)) (hK221 : ∀ (x1 : Int32) (x2 : Int32) (x3 : Int32) (y4 : Int64) (x6 : Int32) (x7 : Int32) (S : St) (H : Heap) (locs : List Loc) (ls : Array Slot), K221 x1 x2 x3 y4 x6 x7 S = some (r, SF) → Xw D 17 (cellM T q) q T ExM A s S H locs → lv_has ls 10 [(0, .ref (q 0)), (1, .int x1), (2, .int x2), (3, .int x3), (4, .long y4), (6, .int x6), (7, .int x7)] → XG p l e ({ frames := 1, cells := 0, slots := 0, locals := 29 }) s m args below meth c D 17 (cellM T q) q T A SF (some (.long r)) H locs 221 ls [])  (x1 : Int32) (x2 : Int32) (x3 : Int32) (y4 : Int64) (x6 : Int32) (x7 : Int32) (S : St) {H : Heap} {locs : List Loc} {ls : Array Slot} (hf : jMod_chain_b221 K85 K221 x1 x2 x3 y4 x6 x7 S = some (r, SF)) (hw : Xw D 17 (cellM T q) q T ExM A s S H locs) (hl : lv_has ls 10 [(0, .ref (q 0)), (1, .int x1), (2, .int x2), (3, .int x3), (4, .long y4), (6, .int x6), (7, .int x7)]) : XG p l e ({ frames := 1, cells := 0, slots := 0, locals := 29 }) s m args below meth c D 17 (cellM T q) q T A SF (some (.long r)) H locs 221 ls [] := by
  unfold jMod_chain_b221 at hf
  obtain ⟨hx, hb, hr, hml, hown, hts, hlk, hA⟩ := id B
  refine lv_iload hx hb dX7_chain_221 (lv_at hl 6 rfl) ?_
  refine lv_bipush (v := 8) hx hb dX7_chain_223 (by decide) ?_
  refine lv_icmp_ge (tgt := 248) hx hb dX7_chain_225 (by decide) (fun hc => ?_) (fun hc => ?_)
  · have hf := x_pos hc hf
    refine lv_iinc (v := x6 + 1) (lv' := [(6, .int (x6 + 1)), (0, .ref (q 0)), (1, .int x1), (2, .int x2), (3, .int x3), (4, .long y4), (7, .int x7)]) hx hb dX7_chain_248 hl (k := 5) rfl xi_1 (by decide) rfl (fun ls hl => ?_)
    refine lv_goto (tgt := 85) hx hb dX7_chain_251 (by decide) ?_
    exact hK85 x1 x2 x3 y4 (x6 + 1) S _ _ _ hf hw (lv_sub hl [1, 2, 3, 4, 5, 0] rfl)
  · have hf := x_neg hc hf
    refine lv_aload_n hx hb dX7_chain_228 rfl (lv_at hl 0 rfl) ?_
    refine x_get B hw (Tb := TX7) inX7 0 (by decide) rfl rfl 21 (by decide) u711 (fun _ h => h) rfl dX7_chain_229 ?_
    refine lv_iload hx hb dX7_chain_232 (lv_at hl 6 rfl) ?_
    refine lv_aload_n hx hb dX7_chain_234 rfl (lv_at hl 0 rfl) ?_
    refine x_get B hw (Tb := TX7) inX7 0 (by decide) rfl rfl 22 (by decide) u712 (fun _ h => h) rfl dX7_chain_235 ?_
    refine lv_iload hx hb dX7_chain_238 (lv_at hl 6 rfl) ?_
    refine x_lald B hw 15 (by decide) rfl dX7_chain_240 hf (fun v14 hf => ?_)
    refine x_last B hw 14 (by decide) (fun _ _ => rfl) dX7_chain_241 hf (fun S15 H locs hw hf => ?_)
    refine lv_iinc (v := x7 + 1) (lv' := [(7, .int (x7 + 1)), (0, .ref (q 0)), (1, .int x1), (2, .int x2), (3, .int x3), (4, .long y4), (6, .int x6)]) hx hb dX7_chain_242 hl (k := 6) rfl xi_1 (by decide) rfl (fun ls hl => ?_)
    refine lv_goto (tgt := 221) hx hb dX7_chain_245 (by decide) ?_
    exact hK221 x1 x2 x3 y4 x6 (x7 + 1) S15 _ _ _ hf hw (lv_sub hl [1, 2, 3, 4, 5, 6, 0] rfl)

theorem jMod_chain_h221_ok (B : XB p s m args meth c A cX7_chain 10 (some .long) RX7) {SF : St} {r : Int64} (K85 : Int32 → Int32 → Int32 → Int64 → Int32 → St → Option (Int64 × St)) (hK85 : ∀ (x1 : Int32) (x2 : Int32) (x3 : Int32) (y4 : Int64) (x6 : Int32) (S : St) (H : Heap) (locs : List Loc) (ls : Array Slot), K85 x1 x2 x3 y4 x6 S = some (r, SF) → Xw D 17 (cellM T q) q T ExM A s S H locs → lv_has ls 10 [(0, .ref (q 0)), (1, .int x1), (2, .int x2), (3, .int x3), (4, .long y4), (6, .int x6)] → XG p l e ({ frames := 1, cells := 0, slots := 0, locals := 29 }) s m args below meth c D 17 (cellM T q) q T A SF (some (.long r)) H locs 85 ls []) : ∀ (n : Nat) (x1 : Int32) (x2 : Int32) (x3 : Int32) (y4 : Int64) (x6 : Int32) (x7 : Int32) (S : St) (H : Heap) (locs : List Loc) (ls : Array Slot), jMod_chain_h221 K85 n x1 x2 x3 y4 x6 x7 S = some (r, SF) → Xw D 17 (cellM T q) q T ExM A s S H locs → lv_has ls 10 [(0, .ref (q 0)), (1, .int x1), (2, .int x2), (3, .int x3), (4, .long y4), (6, .int x6), (7, .int x7)] → XG p l e ({ frames := 1, cells := 0, slots := 0, locals := 29 }) s m args below meth c D 17 (cellM T q) q T A SF (some (.long r)) H locs 221 ls [] := by
  intro n
  induction n with
  | zero =>
    intro x1 x2 x3 y4 x6 x7 S H locs ls hf hw hl
    rw [jMod_chain_h221] at hf
    cases hf
  | succ n ih =>
    intro x1 x2 x3 y4 x6 x7 S H locs ls hf hw hl
    rw [jMod_chain_h221] at hf
    exact jMod_chain_b221_ok B K85 hK85 (jMod_chain_h221 K85 n) ih x1 x2 x3 y4 x6 x7 S hf hw hl

set_option maxHeartbeats 4000000 in
theorem jMod_chain_b136_ok (B : XB p s m args meth c A cX7_chain 10 (some .long) RX7) {SF : St} {r : Int64} (K85 : Int32 → Int32 → Int32 → Int64 → Int32 → St → Option (Int64 × St)) (hK85 : ∀ (x1 : Int32) (x2 : Int32) (x3 : Int32) (y4 : Int64) (x6 : Int32) (S : St) (H : Heap) (locs : List Loc) (ls : Array Slot), K85 x1 x2 x3 y4 x6 S = some (r, SF) → Xw D 17 (cellM T q) q T ExM A s S H locs → lv_has ls 10 [(0, .ref (q 0)), (1, .int x1), (2, .int x2), (3, .int x3), (4, .long y4), (6, .int x6)] → XG p l e ({ frames := 1, cells := 0, slots := 0, locals := 29 }) s m args below meth c D 17 (cellM T q) q T A SF (some (.long r)) H locs 85 ls []) (K126 : Int32 → Int32 → Int32 → Int64 → Int32 → Int32 → St → Option (Int64 × St)) (hK126 : ∀ (x1 : Int32) (x2 : Int32) (x3 : Int32) (y4 : Int64) (x6 : Int32) (x7 : Int32) (S : St) (H : Heap) (locs : List Loc) (ls : Array Slot), K126 x1 x2 x3 y4 x6 x7 S = some (r, SF) → Xw D 17 (cellM T q) q T ExM A s S H locs → lv_has ls 10 [(0, .ref (q 0)), (1, .int x1), (2, .int x2), (3, .int x3), (4, .long y4), (6, .int x6), (7, .int x7)] → XG p l e ({ frames := 1, cells := 0, slots := 0, locals := 29 }) s m args below meth c D 17 (cellM T q) q T A SF (some (.long r)) H locs 126 ls []) (K136 : Int32 → Int32 → Int32 → Int64 → Int32 → Int32 → Int32 → St → Option (Int64 × St)) (hK136 : ∀ (x1 : Int32) (x2 : Int32) (x3 : Int32) (y4 : Int64) (x6 : Int32) (x7 : Int32) (x8 : Int32) (S : St) (H : Heap) (locs : List Loc) (ls : Array Slot), K136 x1 x2 x3 y4 x6 x7 x8 S = some (r, SF) → Xw D 17 (cellM T q) q T ExM A s S H locs → lv_has ls 10 [(0, .ref (q 0)), (1, .int x1), (2, .int x2), (3, .int x3), (4, .long y4), (6, .int x6), (7, .int x7), (8, .int x8)] → XG p l e ({ frames := 1, cells := 0, slots := 0, locals := 29 }) s m args below meth c D 17 (cellM T q) q T A SF (some (.long r)) H locs 136 ls [])  (x1 : Int32) (x2 : Int32) (x3 : Int32) (y4 : Int64) (x6 : Int32) (x7 : Int32) (x8 : Int32) (S : St) {H : Heap} {locs : List Loc} {ls : Array Slot} (hf : jMod_chain_b136 K85 K126 K136 x1 x2 x3 y4 x6 x7 x8 S = some (r, SF)) (hw : Xw D 17 (cellM T q) q T ExM A s S H locs) (hl : lv_has ls 10 [(0, .ref (q 0)), (1, .int x1), (2, .int x2), (3, .int x3), (4, .long y4), (6, .int x6), (7, .int x7), (8, .int x8)]) : XG p l e ({ frames := 1, cells := 0, slots := 0, locals := 29 }) s m args below meth c D 17 (cellM T q) q T A SF (some (.long r)) H locs 136 ls [] := by
  unfold jMod_chain_b136 at hf
  obtain ⟨hx, hb, hr, hml, hown, hts, hlk, hA⟩ := id B
  refine lv_iload hx hb dX7_chain_136 (lv_at hl 7 rfl) ?_
  refine lv_bipush (v := 8) hx hb dX7_chain_138 (by decide) ?_
  refine lv_icmp_ge (tgt := 212) hx hb dX7_chain_140 (by decide) (fun hc => ?_) (fun hc => ?_)
  · have hf := x_pos hc hf
    refine lv_iinc (v := x7 + 1) (lv' := [(7, .int (x7 + 1)), (0, .ref (q 0)), (1, .int x1), (2, .int x2), (3, .int x3), (4, .long y4), (6, .int x6), (8, .int x8)]) hx hb dX7_chain_212 hl (k := 6) rfl xi_1 (by decide) rfl (fun ls hl => ?_)
    refine lv_goto (tgt := 126) hx hb dX7_chain_215 (by decide) ?_
    exact hK126 x1 x2 x3 y4 x6 (x7 + 1) S _ _ _ hf hw (lv_sub hl [1, 2, 3, 4, 5, 6, 0] rfl)
  · have hf := x_neg hc hf
    refine lv_aload_n hx hb dX7_chain_143 rfl (lv_at hl 0 rfl) ?_
    refine x_get B hw (Tb := TX7) inX7 0 (by decide) rfl rfl 21 (by decide) u711 (fun _ h => h) rfl dX7_chain_144 ?_
    refine lv_iload hx hb dX7_chain_147 (lv_at hl 6 rfl) ?_
    refine x_lald B hw 14 (by decide) rfl dX7_chain_149 hf (fun v16 hf => ?_)
    refine lv_lconst (v := 0) hx hb dX7_chain_150 (by decide) ?_
    refine W.lcmp hx hb dX7_chain_151 ?_
    refine lv_if_le (tgt := 212) hx hb dX7_chain_152 (by decide) (fun hc => ?_) (fun hc => ?_)
    · have hf := x_pos hc hf
      refine lv_iinc (v := x7 + 1) (lv' := [(7, .int (x7 + 1)), (0, .ref (q 0)), (1, .int x1), (2, .int x2), (3, .int x3), (4, .long y4), (6, .int x6), (8, .int x8)]) hx hb dX7_chain_212 hl (k := 6) rfl xi_1 (by decide) rfl (fun ls hl => ?_)
      refine lv_goto (tgt := 126) hx hb dX7_chain_215 (by decide) ?_
      exact hK126 x1 x2 x3 y4 x6 (x7 + 1) S _ _ _ hf hw (lv_sub hl [1, 2, 3, 4, 5, 6, 0] rfl)
    · have hf := x_neg hc hf
      refine lv_aload_n hx hb dX7_chain_155 rfl (lv_at hl 0 rfl) ?_
      refine lv_iload hx hb dX7_chain_156 (lv_at hl 7 rfl) ?_
      obtain ⟨v18, S17, hc, hf⟩ := x_bd_some hf
      refine x_callV B ExM_ok hw 0 (by decide) rfl rfl (As := [.int x8]) (rest := []) (st1 := [.int v18]) (jMod_meant_ok hc) u900 u902 u32 u45 u903 hdX7_meant rfl ⟨Nat.le_of_ble_eq_true rfl, Nat.le_of_ble_eq_true rfl⟩ ⟨rfl, rfl⟩ hl.1 (Nat.le_of_ble_eq_true rfl) dX7_chain_158 (fun H locs hw => ?_) rfl rfl
      refine lv_istore (lv' := [(9, .int v18), (0, .ref (q 0)), (1, .int x1), (2, .int x2), (3, .int x3), (4, .long y4), (6, .int x6), (7, .int x7), (8, .int x8)]) hx hb dX7_chain_161 hl (by decide) rfl (fun ls hl => ?_)
      refine lv_iload hx hb dX7_chain_163 (lv_at hl 0 rfl) ?_
      refine lv_bipush (v := (-9)) hx hb dX7_chain_165 (by decide) ?_
      refine lv_icmp_eq (tgt := 206) hx hb dX7_chain_167 (by decide) (fun hc => ?_) (fun hc => ?_)
      · have hf := x_pos hc hf
        refine lv_iinc (v := x8 + 1) (lv' := [(8, .int (x8 + 1)), (9, .int v18), (0, .ref (q 0)), (1, .int x1), (2, .int x2), (3, .int x3), (4, .long y4), (6, .int x6), (7, .int x7)]) hx hb dX7_chain_206 hl (k := 8) rfl xi_1 (by decide) rfl (fun ls hl => ?_)
        refine lv_goto (tgt := 136) hx hb dX7_chain_209 (by decide) ?_
        exact hK136 x1 x2 x3 y4 x6 x7 (x8 + 1) S17 _ _ _ hf hw (lv_sub hl [2, 3, 4, 5, 6, 7, 8, 0] rfl)
      · have hf := x_neg hc hf
        refine lv_aload_n hx hb dX7_chain_170 rfl (lv_at hl 1 rfl) ?_
        refine x_get B hw (Tb := TX7) inX7 0 (by decide) rfl rfl 22 (by decide) u712 (fun _ h => h) rfl dX7_chain_171 ?_
        refine lv_iload hx hb dX7_chain_174 (lv_at hl 0 rfl) ?_
        refine lv_dup2_11 hx hb dX7_chain_176 rfl rfl ?_
        refine x_lald B hw 15 (by decide) rfl dX7_chain_177 hf (fun v19 hf => ?_)
        refine lv_aload_n hx hb dX7_chain_178 rfl (lv_at hl 1 rfl) ?_
        refine x_get B hw (Tb := TX7) inX7 0 (by decide) rfl rfl 21 (by decide) u711 (fun _ h => h) rfl dX7_chain_179 ?_
        refine lv_iload hx hb dX7_chain_182 (lv_at hl 7 rfl) ?_
        refine x_lald B hw 14 (by decide) rfl dX7_chain_184 hf (fun v20 hf => ?_)
        refine lv_aload_n hx hb dX7_chain_185 rfl (lv_at hl 1 rfl) ?_
        refine lv_aload_n hx hb dX7_chain_186 rfl (lv_at hl 1 rfl) ?_
        refine x_get B hw (Tb := TX7) inX7 0 (by decide) rfl rfl 7 (by decide) u697 (fun _ h => h) rfl dX7_chain_187 ?_
        refine lv_aload_n hx hb dX7_chain_190 rfl (lv_at hl 1 rfl) ?_
        refine lv_iload hx hb dX7_chain_191 (lv_at hl 7 rfl) ?_
        obtain ⟨v22, S21, hc, hf⟩ := x_bd_some hf
        refine x_callV B ExM_ok hw 0 (by decide) rfl rfl (As := [.int x7]) (rest := [.ref (q 6), .ref (q 0), .long v20, .long v19, .int v18, .ref (q 15)]) (st1 := [.int v22, .ref (q 6), .ref (q 0), .long v20, .long v19, .int v18, .ref (q 15)]) (jMod_leastOf_ok hc) u909 u911 u33 u45 u912 hdX7_leastOf rfl ⟨Nat.le_of_ble_eq_true rfl, Nat.le_of_ble_eq_true rfl⟩ ⟨rfl, rfl⟩ hl.1 (Nat.le_of_ble_eq_true rfl) dX7_chain_193 (fun H locs hw => ?_) rfl rfl
        refine x_iald B hw 6 (by decide) rfl dX7_chain_196 hf (fun v23 hf => ?_)
        refine lv_iload hx hb dX7_chain_197 (lv_at hl 8 rfl) ?_
        obtain ⟨v25, S24, hc, hf⟩ := x_bd_some hf
        refine x_callV B ExM_ok hw 0 (by decide) rfl rfl (As := [.int v23, .int x8]) (rest := [.long v20, .long v19, .int v18, .ref (q 15)]) (st1 := [.int v25, .long v20, .long v19, .int v18, .ref (q 15)]) (jMod_readAs_ok hc) u892 u894 u31 u45 u895 hdX7_readAs rfl ⟨Nat.le_of_ble_eq_true rfl, Nat.le_of_ble_eq_true rfl⟩ ⟨rfl, rfl⟩ hl.1 (Nat.le_of_ble_eq_true rfl) dX7_chain_199 (fun H locs hw => ?_) rfl rfl
        refine lv_i2l (v := Int32.toInt64 v25) hx hb dX7_chain_202 rfl ?_
        refine lv_lmul hx hb dX7_chain_203 ?_
        refine lv_ladd hx hb dX7_chain_204 ?_
        refine x_last B hw 15 (by decide) (fun _ _ => rfl) dX7_chain_205 hf (fun S26 H locs hw hf => ?_)
        refine lv_iinc (v := x8 + 1) (lv' := [(8, .int (x8 + 1)), (9, .int v18), (0, .ref (q 0)), (1, .int x1), (2, .int x2), (3, .int x3), (4, .long y4), (6, .int x6), (7, .int x7)]) hx hb dX7_chain_206 hl (k := 8) rfl xi_1 (by decide) rfl (fun ls hl => ?_)
        refine lv_goto (tgt := 136) hx hb dX7_chain_209 (by decide) ?_
        exact hK136 x1 x2 x3 y4 x6 x7 (x8 + 1) S26 _ _ _ hf hw (lv_sub hl [2, 3, 4, 5, 6, 7, 8, 0] rfl)

theorem jMod_chain_h136_ok (B : XB p s m args meth c A cX7_chain 10 (some .long) RX7) {SF : St} {r : Int64} (K85 : Int32 → Int32 → Int32 → Int64 → Int32 → St → Option (Int64 × St)) (hK85 : ∀ (x1 : Int32) (x2 : Int32) (x3 : Int32) (y4 : Int64) (x6 : Int32) (S : St) (H : Heap) (locs : List Loc) (ls : Array Slot), K85 x1 x2 x3 y4 x6 S = some (r, SF) → Xw D 17 (cellM T q) q T ExM A s S H locs → lv_has ls 10 [(0, .ref (q 0)), (1, .int x1), (2, .int x2), (3, .int x3), (4, .long y4), (6, .int x6)] → XG p l e ({ frames := 1, cells := 0, slots := 0, locals := 29 }) s m args below meth c D 17 (cellM T q) q T A SF (some (.long r)) H locs 85 ls []) (K126 : Int32 → Int32 → Int32 → Int64 → Int32 → Int32 → St → Option (Int64 × St)) (hK126 : ∀ (x1 : Int32) (x2 : Int32) (x3 : Int32) (y4 : Int64) (x6 : Int32) (x7 : Int32) (S : St) (H : Heap) (locs : List Loc) (ls : Array Slot), K126 x1 x2 x3 y4 x6 x7 S = some (r, SF) → Xw D 17 (cellM T q) q T ExM A s S H locs → lv_has ls 10 [(0, .ref (q 0)), (1, .int x1), (2, .int x2), (3, .int x3), (4, .long y4), (6, .int x6), (7, .int x7)] → XG p l e ({ frames := 1, cells := 0, slots := 0, locals := 29 }) s m args below meth c D 17 (cellM T q) q T A SF (some (.long r)) H locs 126 ls []) : ∀ (n : Nat) (x1 : Int32) (x2 : Int32) (x3 : Int32) (y4 : Int64) (x6 : Int32) (x7 : Int32) (x8 : Int32) (S : St) (H : Heap) (locs : List Loc) (ls : Array Slot), jMod_chain_h136 K85 K126 n x1 x2 x3 y4 x6 x7 x8 S = some (r, SF) → Xw D 17 (cellM T q) q T ExM A s S H locs → lv_has ls 10 [(0, .ref (q 0)), (1, .int x1), (2, .int x2), (3, .int x3), (4, .long y4), (6, .int x6), (7, .int x7), (8, .int x8)] → XG p l e ({ frames := 1, cells := 0, slots := 0, locals := 29 }) s m args below meth c D 17 (cellM T q) q T A SF (some (.long r)) H locs 136 ls [] := by
  intro n
  induction n with
  | zero =>
    intro x1 x2 x3 y4 x6 x7 x8 S H locs ls hf hw hl
    rw [jMod_chain_h136] at hf
    cases hf
  | succ n ih =>
    intro x1 x2 x3 y4 x6 x7 x8 S H locs ls hf hw hl
    rw [jMod_chain_h136] at hf
    exact jMod_chain_b136_ok B K85 hK85 K126 hK126 (jMod_chain_h136 K85 K126 n) ih x1 x2 x3 y4 x6 x7 x8 S hf hw hl

set_option maxHeartbeats 4000000 in
theorem jMod_chain_b126_ok (B : XB p s m args meth c A cX7_chain 10 (some .long) RX7) {SF : St} {r : Int64} (K85 : Int32 → Int32 → Int32 → Int64 → Int32 → St → Option (Int64 × St)) (hK85 : ∀ (x1 : Int32) (x2 : Int32) (x3 : Int32) (y4 : Int64) (x6 : Int32) (S : St) (H : Heap) (locs : List Loc) (ls : Array Slot), K85 x1 x2 x3 y4 x6 S = some (r, SF) → Xw D 17 (cellM T q) q T ExM A s S H locs → lv_has ls 10 [(0, .ref (q 0)), (1, .int x1), (2, .int x2), (3, .int x3), (4, .long y4), (6, .int x6)] → XG p l e ({ frames := 1, cells := 0, slots := 0, locals := 29 }) s m args below meth c D 17 (cellM T q) q T A SF (some (.long r)) H locs 85 ls []) (K126 : Int32 → Int32 → Int32 → Int64 → Int32 → Int32 → St → Option (Int64 × St)) (hK126 : ∀ (x1 : Int32) (x2 : Int32) (x3 : Int32) (y4 : Int64) (x6 : Int32) (x7 : Int32) (S : St) (H : Heap) (locs : List Loc) (ls : Array Slot), K126 x1 x2 x3 y4 x6 x7 S = some (r, SF) → Xw D 17 (cellM T q) q T ExM A s S H locs → lv_has ls 10 [(0, .ref (q 0)), (1, .int x1), (2, .int x2), (3, .int x3), (4, .long y4), (6, .int x6), (7, .int x7)] → XG p l e ({ frames := 1, cells := 0, slots := 0, locals := 29 }) s m args below meth c D 17 (cellM T q) q T A SF (some (.long r)) H locs 126 ls [])  (x1 : Int32) (x2 : Int32) (x3 : Int32) (y4 : Int64) (x6 : Int32) (x7 : Int32) (S : St) {H : Heap} {locs : List Loc} {ls : Array Slot} (hf : jMod_chain_b126 K85 K126 x1 x2 x3 y4 x6 x7 S = some (r, SF)) (hw : Xw D 17 (cellM T q) q T ExM A s S H locs) (hl : lv_has ls 10 [(0, .ref (q 0)), (1, .int x1), (2, .int x2), (3, .int x3), (4, .long y4), (6, .int x6), (7, .int x7)]) : XG p l e ({ frames := 1, cells := 0, slots := 0, locals := 29 }) s m args below meth c D 17 (cellM T q) q T A SF (some (.long r)) H locs 126 ls [] := by
  unfold jMod_chain_b126 at hf
  obtain ⟨hx, hb, hr, hml, hown, hts, hlk, hA⟩ := id B
  refine lv_iload hx hb dX7_chain_126 (lv_at hl 6 rfl) ?_
  refine lv_bipush (v := 8) hx hb dX7_chain_128 (by decide) ?_
  refine lv_icmp_ge (tgt := 218) hx hb dX7_chain_130 (by decide) (fun hc => ?_) (fun hc => ?_)
  · have hf := x_pos hc hf
    refine lv_iconst (v := 0) hx hb dX7_chain_218 (by decide) ?_
    refine lv_istore (lv' := [(7, .int 0), (0, .ref (q 0)), (1, .int x1), (2, .int x2), (3, .int x3), (4, .long y4), (6, .int x6)]) hx hb dX7_chain_219 hl (by decide) rfl (fun ls hl => ?_)
    exact jMod_chain_h221_ok B K85 hK85 FU x1 x2 x3 y4 x6 0 S _ _ _ hf hw (lv_sub hl [1, 2, 3, 4, 5, 6, 0] rfl)
  · have hf := x_neg hc hf
    refine lv_iconst (v := 0) hx hb dX7_chain_133 (by decide) ?_
    refine lv_istore (lv' := [(8, .int 0), (0, .ref (q 0)), (1, .int x1), (2, .int x2), (3, .int x3), (4, .long y4), (6, .int x6), (7, .int x7)]) hx hb dX7_chain_134 hl (by decide) rfl (fun ls hl => ?_)
    exact jMod_chain_h136_ok B K85 hK85 K126 hK126 FU x1 x2 x3 y4 x6 x7 0 S _ _ _ hf hw (lv_sub hl [1, 2, 3, 4, 5, 6, 7, 0] rfl)

theorem jMod_chain_h126_ok (B : XB p s m args meth c A cX7_chain 10 (some .long) RX7) {SF : St} {r : Int64} (K85 : Int32 → Int32 → Int32 → Int64 → Int32 → St → Option (Int64 × St)) (hK85 : ∀ (x1 : Int32) (x2 : Int32) (x3 : Int32) (y4 : Int64) (x6 : Int32) (S : St) (H : Heap) (locs : List Loc) (ls : Array Slot), K85 x1 x2 x3 y4 x6 S = some (r, SF) → Xw D 17 (cellM T q) q T ExM A s S H locs → lv_has ls 10 [(0, .ref (q 0)), (1, .int x1), (2, .int x2), (3, .int x3), (4, .long y4), (6, .int x6)] → XG p l e ({ frames := 1, cells := 0, slots := 0, locals := 29 }) s m args below meth c D 17 (cellM T q) q T A SF (some (.long r)) H locs 85 ls []) : ∀ (n : Nat) (x1 : Int32) (x2 : Int32) (x3 : Int32) (y4 : Int64) (x6 : Int32) (x7 : Int32) (S : St) (H : Heap) (locs : List Loc) (ls : Array Slot), jMod_chain_h126 K85 n x1 x2 x3 y4 x6 x7 S = some (r, SF) → Xw D 17 (cellM T q) q T ExM A s S H locs → lv_has ls 10 [(0, .ref (q 0)), (1, .int x1), (2, .int x2), (3, .int x3), (4, .long y4), (6, .int x6), (7, .int x7)] → XG p l e ({ frames := 1, cells := 0, slots := 0, locals := 29 }) s m args below meth c D 17 (cellM T q) q T A SF (some (.long r)) H locs 126 ls [] := by
  intro n
  induction n with
  | zero =>
    intro x1 x2 x3 y4 x6 x7 S H locs ls hf hw hl
    rw [jMod_chain_h126] at hf
    cases hf
  | succ n ih =>
    intro x1 x2 x3 y4 x6 x7 S H locs ls hf hw hl
    rw [jMod_chain_h126] at hf
    exact jMod_chain_b126_ok B K85 hK85 (jMod_chain_h126 K85 n) ih x1 x2 x3 y4 x6 x7 S hf hw hl

set_option maxHeartbeats 4000000 in
theorem jMod_chain_b102_ok (B : XB p s m args meth c A cX7_chain 10 (some .long) RX7) {SF : St} {r : Int64} (K85 : Int32 → Int32 → Int32 → Int64 → Int32 → St → Option (Int64 × St)) (hK85 : ∀ (x1 : Int32) (x2 : Int32) (x3 : Int32) (y4 : Int64) (x6 : Int32) (S : St) (H : Heap) (locs : List Loc) (ls : Array Slot), K85 x1 x2 x3 y4 x6 S = some (r, SF) → Xw D 17 (cellM T q) q T ExM A s S H locs → lv_has ls 10 [(0, .ref (q 0)), (1, .int x1), (2, .int x2), (3, .int x3), (4, .long y4), (6, .int x6)] → XG p l e ({ frames := 1, cells := 0, slots := 0, locals := 29 }) s m args below meth c D 17 (cellM T q) q T A SF (some (.long r)) H locs 85 ls []) (K102 : Int32 → Int32 → Int32 → Int64 → Int32 → Int32 → St → Option (Int64 × St)) (hK102 : ∀ (x1 : Int32) (x2 : Int32) (x3 : Int32) (y4 : Int64) (x6 : Int32) (x7 : Int32) (S : St) (H : Heap) (locs : List Loc) (ls : Array Slot), K102 x1 x2 x3 y4 x6 x7 S = some (r, SF) → Xw D 17 (cellM T q) q T ExM A s S H locs → lv_has ls 10 [(0, .ref (q 0)), (1, .int x1), (2, .int x2), (3, .int x3), (4, .long y4), (6, .int x6), (7, .int x7)] → XG p l e ({ frames := 1, cells := 0, slots := 0, locals := 29 }) s m args below meth c D 17 (cellM T q) q T A SF (some (.long r)) H locs 102 ls [])  (x1 : Int32) (x2 : Int32) (x3 : Int32) (y4 : Int64) (x6 : Int32) (x7 : Int32) (S : St) {H : Heap} {locs : List Loc} {ls : Array Slot} (hf : jMod_chain_b102 K85 K102 x1 x2 x3 y4 x6 x7 S = some (r, SF)) (hw : Xw D 17 (cellM T q) q T ExM A s S H locs) (hl : lv_has ls 10 [(0, .ref (q 0)), (1, .int x1), (2, .int x2), (3, .int x3), (4, .long y4), (6, .int x6), (7, .int x7)]) : XG p l e ({ frames := 1, cells := 0, slots := 0, locals := 29 }) s m args below meth c D 17 (cellM T q) q T A SF (some (.long r)) H locs 102 ls [] := by
  unfold jMod_chain_b102 at hf
  obtain ⟨hx, hb, hr, hml, hown, hts, hlk, hA⟩ := id B
  refine lv_iload hx hb dX7_chain_102 (lv_at hl 6 rfl) ?_
  refine lv_bipush (v := 8) hx hb dX7_chain_104 (by decide) ?_
  refine lv_icmp_ge (tgt := 123) hx hb dX7_chain_106 (by decide) (fun hc => ?_) (fun hc => ?_)
  · have hf := x_pos hc hf
    refine lv_iconst (v := 0) hx hb dX7_chain_123 (by decide) ?_
    refine lv_istore (lv' := [(7, .int 0), (0, .ref (q 0)), (1, .int x1), (2, .int x2), (3, .int x3), (4, .long y4), (6, .int x6)]) hx hb dX7_chain_124 hl (by decide) rfl (fun ls hl => ?_)
    exact jMod_chain_h126_ok B K85 hK85 FU x1 x2 x3 y4 x6 0 S _ _ _ hf hw (lv_sub hl [1, 2, 3, 4, 5, 6, 0] rfl)
  · have hf := x_neg hc hf
    refine lv_aload_n hx hb dX7_chain_109 rfl (lv_at hl 0 rfl) ?_
    refine x_get B hw (Tb := TX7) inX7 0 (by decide) rfl rfl 22 (by decide) u712 (fun _ h => h) rfl dX7_chain_110 ?_
    refine lv_iload hx hb dX7_chain_113 (lv_at hl 6 rfl) ?_
    refine lv_lconst (v := 0) hx hb dX7_chain_115 (by decide) ?_
    refine x_last B hw 15 (by decide) (fun _ _ => rfl) dX7_chain_116 hf (fun S27 H locs hw hf => ?_)
    refine lv_iinc (v := x7 + 1) (lv' := [(7, .int (x7 + 1)), (0, .ref (q 0)), (1, .int x1), (2, .int x2), (3, .int x3), (4, .long y4), (6, .int x6)]) hx hb dX7_chain_117 hl (k := 6) rfl xi_1 (by decide) rfl (fun ls hl => ?_)
    refine lv_goto (tgt := 102) hx hb dX7_chain_120 (by decide) ?_
    exact hK102 x1 x2 x3 y4 x6 (x7 + 1) S27 _ _ _ hf hw (lv_sub hl [1, 2, 3, 4, 5, 6, 0] rfl)

theorem jMod_chain_h102_ok (B : XB p s m args meth c A cX7_chain 10 (some .long) RX7) {SF : St} {r : Int64} (K85 : Int32 → Int32 → Int32 → Int64 → Int32 → St → Option (Int64 × St)) (hK85 : ∀ (x1 : Int32) (x2 : Int32) (x3 : Int32) (y4 : Int64) (x6 : Int32) (S : St) (H : Heap) (locs : List Loc) (ls : Array Slot), K85 x1 x2 x3 y4 x6 S = some (r, SF) → Xw D 17 (cellM T q) q T ExM A s S H locs → lv_has ls 10 [(0, .ref (q 0)), (1, .int x1), (2, .int x2), (3, .int x3), (4, .long y4), (6, .int x6)] → XG p l e ({ frames := 1, cells := 0, slots := 0, locals := 29 }) s m args below meth c D 17 (cellM T q) q T A SF (some (.long r)) H locs 85 ls []) : ∀ (n : Nat) (x1 : Int32) (x2 : Int32) (x3 : Int32) (y4 : Int64) (x6 : Int32) (x7 : Int32) (S : St) (H : Heap) (locs : List Loc) (ls : Array Slot), jMod_chain_h102 K85 n x1 x2 x3 y4 x6 x7 S = some (r, SF) → Xw D 17 (cellM T q) q T ExM A s S H locs → lv_has ls 10 [(0, .ref (q 0)), (1, .int x1), (2, .int x2), (3, .int x3), (4, .long y4), (6, .int x6), (7, .int x7)] → XG p l e ({ frames := 1, cells := 0, slots := 0, locals := 29 }) s m args below meth c D 17 (cellM T q) q T A SF (some (.long r)) H locs 102 ls [] := by
  intro n
  induction n with
  | zero =>
    intro x1 x2 x3 y4 x6 x7 S H locs ls hf hw hl
    rw [jMod_chain_h102] at hf
    cases hf
  | succ n ih =>
    intro x1 x2 x3 y4 x6 x7 S H locs ls hf hw hl
    rw [jMod_chain_h102] at hf
    exact jMod_chain_b102_ok B K85 hK85 (jMod_chain_h102 K85 n) ih x1 x2 x3 y4 x6 x7 S hf hw hl

set_option maxHeartbeats 4000000 in
theorem jMod_chain_b85_ok (B : XB p s m args meth c A cX7_chain 10 (some .long) RX7) {SF : St} {r : Int64} (K85 : Int32 → Int32 → Int32 → Int64 → Int32 → St → Option (Int64 × St)) (hK85 : ∀ (x1 : Int32) (x2 : Int32) (x3 : Int32) (y4 : Int64) (x6 : Int32) (S : St) (H : Heap) (locs : List Loc) (ls : Array Slot), K85 x1 x2 x3 y4 x6 S = some (r, SF) → Xw D 17 (cellM T q) q T ExM A s S H locs → lv_has ls 10 [(0, .ref (q 0)), (1, .int x1), (2, .int x2), (3, .int x3), (4, .long y4), (6, .int x6)] → XG p l e ({ frames := 1, cells := 0, slots := 0, locals := 29 }) s m args below meth c D 17 (cellM T q) q T A SF (some (.long r)) H locs 85 ls [])  (x1 : Int32) (x2 : Int32) (x3 : Int32) (y4 : Int64) (x6 : Int32) (S : St) {H : Heap} {locs : List Loc} {ls : Array Slot} (hf : jMod_chain_b85 K85 x1 x2 x3 y4 x6 S = some (r, SF)) (hw : Xw D 17 (cellM T q) q T ExM A s S H locs) (hl : lv_has ls 10 [(0, .ref (q 0)), (1, .int x1), (2, .int x2), (3, .int x3), (4, .long y4), (6, .int x6)]) : XG p l e ({ frames := 1, cells := 0, slots := 0, locals := 29 }) s m args below meth c D 17 (cellM T q) q T A SF (some (.long r)) H locs 85 ls [] := by
  unfold jMod_chain_b85 at hf
  obtain ⟨hx, hb, hr, hml, hown, hts, hlk, hA⟩ := id B
  refine lv_iload hx hb dX7_chain_85 (lv_at hl 5 rfl) ?_
  refine lv_iload_n hx hb dX7_chain_87 rfl (lv_at hl 2 rfl) ?_
  refine lv_icmp_ge (tgt := 254) hx hb dX7_chain_88 (by decide) (fun hc => ?_) (fun hc => ?_)
  · have hf := x_pos hc hf
    refine lv_aload_n hx hb dX7_chain_254 rfl (lv_at hl 0 rfl) ?_
    refine x_get B hw (Tb := TX7) inX7 0 (by decide) rfl rfl 21 (by decide) u711 (fun _ h => h) rfl dX7_chain_255 ?_
    refine lv_iload_n hx hb dX7_chain_258 rfl (lv_at hl 1 rfl) ?_
    refine x_lald B hw 14 (by decide) rfl dX7_chain_259 hf (fun v9 hf => ?_)
    refine lv_lload hx hb dX7_chain_260 (lv_at hl 4 rfl) ?_
    obtain ⟨v11, S10, hc, hf⟩ := x_bd_some hf
    refine x_callS B ExM_ok hw (As := [.long v9, .long y4]) (rest := []) (st1 := [.long v11]) (jMod_common_ok hc) u914 u915 u45 u916 hdX7_common rfl ⟨Nat.le_of_ble_eq_true rfl, Nat.le_of_ble_eq_true rfl⟩ ⟨rfl, rfl⟩ hl.1 (Nat.le_of_ble_eq_true rfl) dX7_chain_262 (fun H locs hw => ?_) rfl rfl
    refine lv_lstore (lv' := [(6, .long v11), (0, .ref (q 0)), (1, .int x1), (2, .int x2), (3, .int x3), (4, .long y4)]) hx hb dX7_chain_265 hl (by decide) rfl (fun ls hl => ?_)
    refine lv_iload_n hx hb dX7_chain_267 rfl (lv_at hl 4 rfl) ?_
    refine lv_if_ne (tgt := 283) hx hb dX7_chain_268 (by decide) (fun hc => ?_) (fun hc => ?_)
    · have hf := x_neg hc hf
      refine lv_lload hx hb dX7_chain_283 (lv_at hl 5 rfl) ?_
      refine lv_lload hx hb dX7_chain_285 (lv_at hl 0 rfl) ?_
      obtain ⟨hne, hf⟩ := x_ng hf
      refine lv_ldiv hx hb dX7_chain_287 hne ?_
      exact x_lret B hw hf dX7_chain_288
    · have hf := x_pos hc hf
      refine lv_aload_n hx hb dX7_chain_271 rfl (lv_at hl 1 rfl) ?_
      refine x_get B hw (Tb := TX7) inX7 0 (by decide) rfl rfl 21 (by decide) u711 (fun _ h => h) rfl dX7_chain_272 ?_
      refine lv_iload_n hx hb dX7_chain_275 rfl (lv_at hl 2 rfl) ?_
      refine x_lald B hw 14 (by decide) rfl dX7_chain_276 hf (fun v12 hf => ?_)
      refine lv_lload hx hb dX7_chain_277 (lv_at hl 0 rfl) ?_
      obtain ⟨hne, hf⟩ := x_ng hf
      refine lv_ldiv hx hb dX7_chain_279 hne ?_
      refine lv_goto (tgt := 288) hx hb dX7_chain_280 (by decide) ?_
      exact x_lret B hw hf dX7_chain_288
  · have hf := x_neg hc hf
    refine lv_lload hx hb dX7_chain_91 (lv_at hl 4 rfl) ?_
    refine lv_ldc2 (v := 1000) hx hb hown (hts _ u913) dX7_chain_93 ?_
    refine lv_lmul hx hb dX7_chain_96 ?_
    refine x_letl hf (fun v13 hf => ?_)
    refine lv_lstore (lv' := [(4, .long v13), (0, .ref (q 0)), (1, .int x1), (2, .int x2), (3, .int x3), (6, .int x6)]) hx hb dX7_chain_97 hl (by decide) rfl (fun ls hl => ?_)
    refine lv_iconst (v := 0) hx hb dX7_chain_99 (by decide) ?_
    refine lv_istore (lv' := [(7, .int 0), (4, .long v13), (0, .ref (q 0)), (1, .int x1), (2, .int x2), (3, .int x3), (6, .int x6)]) hx hb dX7_chain_100 hl (by decide) rfl (fun ls hl => ?_)
    exact jMod_chain_h102_ok B K85 hK85 FU x1 x2 x3 v13 x6 0 S _ _ _ hf hw (lv_sub hl [2, 3, 4, 5, 1, 6, 0] rfl)

theorem jMod_chain_h85_ok (B : XB p s m args meth c A cX7_chain 10 (some .long) RX7) {SF : St} {r : Int64} : ∀ (n : Nat) (x1 : Int32) (x2 : Int32) (x3 : Int32) (y4 : Int64) (x6 : Int32) (S : St) (H : Heap) (locs : List Loc) (ls : Array Slot), jMod_chain_h85 n x1 x2 x3 y4 x6 S = some (r, SF) → Xw D 17 (cellM T q) q T ExM A s S H locs → lv_has ls 10 [(0, .ref (q 0)), (1, .int x1), (2, .int x2), (3, .int x3), (4, .long y4), (6, .int x6)] → XG p l e ({ frames := 1, cells := 0, slots := 0, locals := 29 }) s m args below meth c D 17 (cellM T q) q T A SF (some (.long r)) H locs 85 ls [] := by
  intro n
  induction n with
  | zero =>
    intro x1 x2 x3 y4 x6 S H locs ls hf hw hl
    rw [jMod_chain_h85] at hf
    cases hf
  | succ n ih =>
    intro x1 x2 x3 y4 x6 S H locs ls hf hw hl
    rw [jMod_chain_h85] at hf
    exact jMod_chain_b85_ok B (jMod_chain_h85 n) ih x1 x2 x3 y4 x6 S hf hw hl

set_option maxHeartbeats 4000000 in
theorem jMod_chain_b75_ok (B : XB p s m args meth c A cX7_chain 10 (some .long) RX7) {SF : St} {r : Int64} (K51 : Int32 → Int32 → Int32 → Int64 → Int32 → St → Option (Int64 × St)) (hK51 : ∀ (x1 : Int32) (x2 : Int32) (x3 : Int32) (y4 : Int64) (x6 : Int32) (S : St) (H : Heap) (locs : List Loc) (ls : Array Slot), K51 x1 x2 x3 y4 x6 S = some (r, SF) → Xw D 17 (cellM T q) q T ExM A s S H locs → lv_has ls 10 [(0, .ref (q 0)), (1, .int x1), (2, .int x2), (3, .int x3), (4, .long y4), (6, .int x6)] → XG p l e ({ frames := 1, cells := 0, slots := 0, locals := 29 }) s m args below meth c D 17 (cellM T q) q T A SF (some (.long r)) H locs 51 ls [])  (x1 : Int32) (x2 : Int32) (x3 : Int32) (y4 : Int64) (x6 : Int32) (t0 : Int64) (s1 : Int32) (S : St) {H : Heap} {locs : List Loc} {ls : Array Slot} (hf : jMod_chain_b75 K51 x1 x2 x3 y4 x6 t0 s1 S = some (r, SF)) (hw : Xw D 17 (cellM T q) q T ExM A s S H locs) (hl : lv_has ls 10 [(0, .ref (q 0)), (1, .int x1), (2, .int x2), (3, .int x3), (4, .long y4), (6, .int x6)]) : XG p l e ({ frames := 1, cells := 0, slots := 0, locals := 29 }) s m args below meth c D 17 (cellM T q) q T A SF (some (.long r)) H locs 75 ls [.long t0, .int s1, .ref (q 14)] := by
  unfold jMod_chain_b75 at hf
  obtain ⟨hx, hb, hr, hml, hown, hts, hlk, hA⟩ := id B
  refine x_last B hw 14 (by decide) (fun _ _ => rfl) dX7_chain_75 hf (fun S28 H locs hw hf => ?_)
  refine lv_iinc (v := x6 + 1) (lv' := [(6, .int (x6 + 1)), (0, .ref (q 0)), (1, .int x1), (2, .int x2), (3, .int x3), (4, .long y4)]) hx hb dX7_chain_76 hl (k := 5) rfl xi_1 (by decide) rfl (fun ls hl => ?_)
  refine lv_goto (tgt := 51) hx hb dX7_chain_79 (by decide) ?_
  exact hK51 x1 x2 x3 y4 (x6 + 1) S28 _ _ _ hf hw (lv_sub hl [1, 2, 3, 4, 5, 0] rfl)

set_option maxHeartbeats 4000000 in
theorem jMod_chain_b51_ok (B : XB p s m args meth c A cX7_chain 10 (some .long) RX7) {SF : St} {r : Int64} (K51 : Int32 → Int32 → Int32 → Int64 → Int32 → St → Option (Int64 × St)) (hK51 : ∀ (x1 : Int32) (x2 : Int32) (x3 : Int32) (y4 : Int64) (x6 : Int32) (S : St) (H : Heap) (locs : List Loc) (ls : Array Slot), K51 x1 x2 x3 y4 x6 S = some (r, SF) → Xw D 17 (cellM T q) q T ExM A s S H locs → lv_has ls 10 [(0, .ref (q 0)), (1, .int x1), (2, .int x2), (3, .int x3), (4, .long y4), (6, .int x6)] → XG p l e ({ frames := 1, cells := 0, slots := 0, locals := 29 }) s m args below meth c D 17 (cellM T q) q T A SF (some (.long r)) H locs 51 ls [])  (x1 : Int32) (x2 : Int32) (x3 : Int32) (y4 : Int64) (x6 : Int32) (S : St) {H : Heap} {locs : List Loc} {ls : Array Slot} (hf : jMod_chain_b51 K51 x1 x2 x3 y4 x6 S = some (r, SF)) (hw : Xw D 17 (cellM T q) q T ExM A s S H locs) (hl : lv_has ls 10 [(0, .ref (q 0)), (1, .int x1), (2, .int x2), (3, .int x3), (4, .long y4), (6, .int x6)]) : XG p l e ({ frames := 1, cells := 0, slots := 0, locals := 29 }) s m args below meth c D 17 (cellM T q) q T A SF (some (.long r)) H locs 51 ls [] := by
  unfold jMod_chain_b51 at hf
  obtain ⟨hx, hb, hr, hml, hown, hts, hlk, hA⟩ := id B
  refine lv_iload hx hb dX7_chain_51 (lv_at hl 5 rfl) ?_
  refine lv_bipush (v := 8) hx hb dX7_chain_53 (by decide) ?_
  refine lv_icmp_ge (tgt := 82) hx hb dX7_chain_55 (by decide) (fun hc => ?_) (fun hc => ?_)
  · have hf := x_pos hc hf
    refine lv_iconst (v := 0) hx hb dX7_chain_82 (by decide) ?_
    refine lv_istore (lv' := [(6, .int 0), (0, .ref (q 0)), (1, .int x1), (2, .int x2), (3, .int x3), (4, .long y4)]) hx hb dX7_chain_83 hl (by decide) rfl (fun ls hl => ?_)
    exact jMod_chain_h85_ok B FU x1 x2 x3 y4 0 S _ _ _ hf hw (lv_sub hl [1, 2, 3, 4, 5, 0] rfl)
  · have hf := x_neg hc hf
    refine lv_aload_n hx hb dX7_chain_58 rfl (lv_at hl 0 rfl) ?_
    refine x_get B hw (Tb := TX7) inX7 0 (by decide) rfl rfl 21 (by decide) u711 (fun _ h => h) rfl dX7_chain_59 ?_
    refine lv_iload hx hb dX7_chain_62 (lv_at hl 5 rfl) ?_
    refine lv_iload hx hb dX7_chain_64 (lv_at hl 5 rfl) ?_
    refine lv_iload_n hx hb dX7_chain_66 rfl (lv_at hl 1 rfl) ?_
    refine lv_icmp_ne (tgt := 74) hx hb dX7_chain_67 (by decide) (fun hc => ?_) (fun hc => ?_)
    · have hf := x_neg hc hf
      refine lv_lconst (v := 0) hx hb dX7_chain_74 (by decide) ?_
      exact jMod_chain_b75_ok B K51 hK51 x1 x2 x3 y4 x6 0 x6 S hf hw (lv_sub hl [0, 1, 2, 3, 4, 5] rfl)
    · have hf := x_pos hc hf
      refine lv_lconst (v := 1) hx hb dX7_chain_70 (by decide) ?_
      refine lv_goto (tgt := 75) hx hb dX7_chain_71 (by decide) ?_
      exact jMod_chain_b75_ok B K51 hK51 x1 x2 x3 y4 x6 1 x6 S hf hw (lv_sub hl [0, 1, 2, 3, 4, 5] rfl)

theorem jMod_chain_h51_ok (B : XB p s m args meth c A cX7_chain 10 (some .long) RX7) {SF : St} {r : Int64} : ∀ (n : Nat) (x1 : Int32) (x2 : Int32) (x3 : Int32) (y4 : Int64) (x6 : Int32) (S : St) (H : Heap) (locs : List Loc) (ls : Array Slot), jMod_chain_h51 n x1 x2 x3 y4 x6 S = some (r, SF) → Xw D 17 (cellM T q) q T ExM A s S H locs → lv_has ls 10 [(0, .ref (q 0)), (1, .int x1), (2, .int x2), (3, .int x3), (4, .long y4), (6, .int x6)] → XG p l e ({ frames := 1, cells := 0, slots := 0, locals := 29 }) s m args below meth c D 17 (cellM T q) q T A SF (some (.long r)) H locs 51 ls [] := by
  intro n
  induction n with
  | zero =>
    intro x1 x2 x3 y4 x6 S H locs ls hf hw hl
    rw [jMod_chain_h51] at hf
    cases hf
  | succ n ih =>
    intro x1 x2 x3 y4 x6 S H locs ls hf hw hl
    rw [jMod_chain_h51] at hf
    exact jMod_chain_b51_ok B (jMod_chain_h51 n) ih x1 x2 x3 y4 x6 S hf hw hl

set_option maxHeartbeats 4000000 in
theorem jMod_chain_b0_ok (B : XB p s m args meth c A cX7_chain 10 (some .long) RX7) {SF : St} {r : Int64}  (x1 : Int32) (x2 : Int32) (x3 : Int32) (S : St) {H : Heap} {locs : List Loc} {ls : Array Slot} (hf : jMod_chain x1 x2 x3 S = some (r, SF)) (hw : Xw D 17 (cellM T q) q T ExM A s S H locs) (hl : lv_has ls 10 [(0, .ref (q 0)), (1, .int x1), (2, .int x2), (3, .int x3)]) : XG p l e ({ frames := 1, cells := 0, slots := 0, locals := 29 }) s m args below meth c D 17 (cellM T q) q T A SF (some (.long r)) H locs 0 ls [] := by
  unfold jMod_chain at hf
  obtain ⟨hx, hb, hr, hml, hown, hts, hlk, hA⟩ := id B
  refine lv_iload_n hx hb dX7_chain_0 rfl (lv_at hl 1 rfl) ?_
  refine lv_iconst (v := 0) hx hb dX7_chain_1 (by decide) ?_
  refine lv_bipush (v := 7) hx hb dX7_chain_2 (by decide) ?_
  obtain ⟨v2, S1, hc, hf⟩ := x_bd_some hf
  refine x_callS B ExM_ok hw (As := [.int x1, .int 0, .int 7]) (rest := []) (st1 := [.int v2]) (jMod_in_ok hc) u768 u769 u45 u770 hdX7_in rfl ⟨Nat.le_of_ble_eq_true rfl, Nat.le_of_ble_eq_true rfl⟩ ⟨rfl, rfl⟩ hl.1 (Nat.le_of_ble_eq_true rfl) dX7_chain_4 (fun H locs hw => ?_) rfl rfl
  refine lv_if_eq (tgt := 28) hx hb dX7_chain_7 (by decide) (fun hc => ?_) (fun hc => ?_)
  · have hf := x_pos hc hf
    refine lv_ldc2 (v := (-1)) hx hb hown (hts _ u908) dX7_chain_28 ?_
    exact x_lret B hw hf dX7_chain_31
  · have hf := x_neg hc hf
    refine lv_iload_n hx hb dX7_chain_10 rfl (lv_at hl 2 rfl) ?_
    refine lv_iconst (v := 1) hx hb dX7_chain_11 (by decide) ?_
    refine lv_iconst (v := 4) hx hb dX7_chain_12 (by decide) ?_
    obtain ⟨v4, S3, hc, hf⟩ := x_bd_some hf
    refine x_callS B ExM_ok hw (As := [.int x2, .int 1, .int 4]) (rest := []) (st1 := [.int v4]) (jMod_in_ok hc) u768 u769 u45 u770 hdX7_in rfl ⟨Nat.le_of_ble_eq_true rfl, Nat.le_of_ble_eq_true rfl⟩ ⟨rfl, rfl⟩ hl.1 (Nat.le_of_ble_eq_true rfl) dX7_chain_13 (fun H locs hw => ?_) rfl rfl
    refine lv_if_eq (tgt := 28) hx hb dX7_chain_16 (by decide) (fun hc => ?_) (fun hc => ?_)
    · have hf := x_pos hc hf
      refine lv_ldc2 (v := (-1)) hx hb hown (hts _ u908) dX7_chain_28 ?_
      exact x_lret B hw hf dX7_chain_31
    · have hf := x_neg hc hf
      refine lv_iload_n hx hb dX7_chain_19 rfl (lv_at hl 3 rfl) ?_
      refine lv_iconst (v := 0) hx hb dX7_chain_20 (by decide) ?_
      refine lv_iconst (v := 1) hx hb dX7_chain_21 (by decide) ?_
      obtain ⟨v6, S5, hc, hf⟩ := x_bd_some hf
      refine x_callS B ExM_ok hw (As := [.int x3, .int 0, .int 1]) (rest := []) (st1 := [.int v6]) (jMod_in_ok hc) u768 u769 u45 u770 hdX7_in rfl ⟨Nat.le_of_ble_eq_true rfl, Nat.le_of_ble_eq_true rfl⟩ ⟨rfl, rfl⟩ hl.1 (Nat.le_of_ble_eq_true rfl) dX7_chain_22 (fun H locs hw => ?_) rfl rfl
      refine lv_if_ne (tgt := 32) hx hb dX7_chain_25 (by decide) (fun hc => ?_) (fun hc => ?_)
      · have hf := x_neg hc hf
        refine lv_aload_n hx hb dX7_chain_32 rfl (lv_at hl 0 rfl) ?_
        refine lv_iload_n hx hb dX7_chain_33 rfl (lv_at hl 1 rfl) ?_
        obtain ⟨v8, S7, hc, hf⟩ := x_bd_some hf
        refine x_callV B ExM_ok hw 0 (by decide) rfl rfl (As := [.int x1]) (rest := []) (st1 := [.int v8]) (jMod_leastOf_ok hc) u909 u911 u33 u45 u912 hdX7_leastOf rfl ⟨Nat.le_of_ble_eq_true rfl, Nat.le_of_ble_eq_true rfl⟩ ⟨rfl, rfl⟩ hl.1 (Nat.le_of_ble_eq_true rfl) dX7_chain_34 (fun H locs hw => ?_) rfl rfl
        refine lv_bipush (v := (-9)) hx hb dX7_chain_37 (by decide) ?_
        refine lv_icmp_ne (tgt := 45) hx hb dX7_chain_39 (by decide) (fun hc => ?_) (fun hc => ?_)
        · have hf := x_neg hc hf
          refine lv_lconst (v := 1) hx hb dX7_chain_45 (by decide) ?_
          refine lv_lstore (lv' := [(4, .long 1), (0, .ref (q 0)), (1, .int x1), (2, .int x2), (3, .int x3)]) hx hb dX7_chain_46 hl (by decide) rfl (fun ls hl => ?_)
          refine lv_iconst (v := 0) hx hb dX7_chain_48 (by decide) ?_
          refine lv_istore (lv' := [(6, .int 0), (4, .long 1), (0, .ref (q 0)), (1, .int x1), (2, .int x2), (3, .int x3)]) hx hb dX7_chain_49 hl (by decide) rfl (fun ls hl => ?_)
          exact jMod_chain_h51_ok B FU x1 x2 x3 1 0 S7 _ _ _ hf hw (lv_sub hl [2, 3, 4, 5, 1, 0] rfl)
        · have hf := x_pos hc hf
          refine lv_iload_n hx hb dX7_chain_42 rfl (lv_at hl 3 rfl) ?_
          refine lv_i2l (v := Int32.toInt64 x3) hx hb dX7_chain_43 rfl ?_
          exact x_lret B hw hf dX7_chain_44
      · have hf := x_pos hc hf
        refine lv_ldc2 (v := (-1)) hx hb hown (hts _ u908) dX7_chain_28 ?_
        exact x_lret B hw hf dX7_chain_31

set_option maxHeartbeats 4000000 in
theorem jMod_chain_ok {x1 : Int32} {x2 : Int32} {x3 : Int32} {S SF : St} {r : Int64} (hf : jMod_chain x1 x2 x3 S = some (r, SF)) : XMet l D 17 (cellM T q) q T ExM yX7_chain cX7_chain 10 (some .long) ({ frames := 1, cells := 0, slots := 0, locals := 29 }) [.ref (q 0), .int x1, .int x2, .int x3] S (some (.long r)) SF := by
  refine x_enter (own := RX7) (by decide +kernel) rfl (Nat.le_of_ble_eq_true rfl) (fun p e s m below meth c A B ls hw hl0 => ?_)
  have hl : lv_has ls 10 [(0, .ref (q 0)), (1, .int x1), (2, .int x2), (3, .int x3)] := hl0
  exact jMod_chain_b0_ok B x1 x2 x3 S hf hw hl

set_option maxHeartbeats 4000000 in
theorem jMod_who_b87_ok (B : XB p s m args meth c A cX7_who 9 (some .int) RX7) {SF : St} {r : Int32} (K35 : Int32 → Int32 → Int32 → Int32 → Int32 → Int32 → St → Option (Int32 × St)) (hK35 : ∀ (x1 : Int32) (x2 : Int32) (x3 : Int32) (x4 : Int32) (x5 : Int32) (x6 : Int32) (S : St) (H : Heap) (locs : List Loc) (ls : Array Slot), K35 x1 x2 x3 x4 x5 x6 S = some (r, SF) → Xw D 17 (cellM T q) q T ExM A s S H locs → lv_has ls 9 [(0, .ref (q 0)), (1, .int x1), (2, .int x2), (3, .int x3), (4, .int x4), (5, .int x5), (6, .int x6)] → XG p l e ({ frames := 2, cells := 0, slots := 0, locals := 43 }) s m args below meth c D 17 (cellM T q) q T A SF (some (.int r)) H locs 35 ls []) (K49 : Int32 → Int32 → Int32 → Int32 → Int32 → Int32 → Int32 → St → Option (Int32 × St)) (hK49 : ∀ (x1 : Int32) (x2 : Int32) (x3 : Int32) (x4 : Int32) (x5 : Int32) (x6 : Int32) (x7 : Int32) (S : St) (H : Heap) (locs : List Loc) (ls : Array Slot), K49 x1 x2 x3 x4 x5 x6 x7 S = some (r, SF) → Xw D 17 (cellM T q) q T ExM A s S H locs → lv_has ls 9 [(0, .ref (q 0)), (1, .int x1), (2, .int x2), (3, .int x3), (4, .int x4), (5, .int x5), (6, .int x6), (7, .int x7)] → XG p l e ({ frames := 2, cells := 0, slots := 0, locals := 43 }) s m args below meth c D 17 (cellM T q) q T A SF (some (.int r)) H locs 49 ls [])  (x1 : Int32) (x2 : Int32) (x3 : Int32) (x4 : Int32) (x5 : Int32) (x6 : Int32) (x7 : Int32) (s0 : Int32) (S : St) {H : Heap} {locs : List Loc} {ls : Array Slot} (hf : jMod_who_b87 K35 K49 x1 x2 x3 x4 x5 x6 x7 s0 S = some (r, SF)) (hw : Xw D 17 (cellM T q) q T ExM A s S H locs) (hl : lv_has ls 9 [(0, .ref (q 0)), (1, .int x1), (2, .int x2), (3, .int x3), (4, .int x4), (5, .int x5), (6, .int x6), (7, .int x7)]) : XG p l e ({ frames := 2, cells := 0, slots := 0, locals := 43 }) s m args below meth c D 17 (cellM T q) q T A SF (some (.int r)) H locs 87 ls [.int s0] := by
  unfold jMod_who_b87 at hf
  obtain ⟨hx, hb, hr, hml, hown, hts, hlk, hA⟩ := id B
  refine lv_istore (lv' := [(8, .int s0), (0, .ref (q 0)), (1, .int x1), (2, .int x2), (3, .int x3), (4, .int x4), (5, .int x5), (6, .int x6), (7, .int x7)]) hx hb dX7_who_87 hl (by decide) rfl (fun ls hl => ?_)
  refine lv_iload hx hb dX7_who_89 (lv_at hl 5 rfl) ?_
  refine lv_iload hx hb dX7_who_91 (lv_at hl 7 rfl) ?_
  refine lv_iload_n hx hb dX7_who_93 rfl (lv_at hl 3 rfl) ?_
  refine lv_icmp_ne (tgt := 102) hx hb dX7_who_94 (by decide) (fun hc => ?_) (fun hc => ?_)
  · have hf := x_neg hc hf
    refine lv_iconst (v := 0) hx hb dX7_who_102 (by decide) ?_
    refine lv_iadd hx hb dX7_who_103 ?_
    refine x_leti hf (fun v14 hf => ?_)
    refine lv_istore (lv' := [(4, .int v14), (8, .int s0), (0, .ref (q 0)), (1, .int x1), (2, .int x2), (3, .int x3), (5, .int x5), (6, .int x6), (7, .int x7)]) hx hb dX7_who_104 hl (by decide) rfl (fun ls hl => ?_)
    refine lv_iload hx hb dX7_who_106 (lv_at hl 6 rfl) ?_
    refine lv_iload hx hb dX7_who_108 (lv_at hl 1 rfl) ?_
    refine lv_iadd hx hb dX7_who_110 ?_
    refine x_leti hf (fun v15 hf => ?_)
    refine lv_istore (lv' := [(5, .int v15), (4, .int v14), (8, .int s0), (0, .ref (q 0)), (1, .int x1), (2, .int x2), (3, .int x3), (6, .int x6), (7, .int x7)]) hx hb dX7_who_111 hl (by decide) rfl (fun ls hl => ?_)
    refine lv_iinc (v := x7 + 1) (lv' := [(7, .int (x7 + 1)), (5, .int v15), (4, .int v14), (8, .int s0), (0, .ref (q 0)), (1, .int x1), (2, .int x2), (3, .int x3), (6, .int x6)]) hx hb dX7_who_113 hl (k := 8) rfl xi_1 (by decide) rfl (fun ls hl => ?_)
    refine lv_goto (tgt := 49) hx hb dX7_who_116 (by decide) ?_
    exact hK49 x1 x2 x3 v14 v15 x6 (x7 + 1) S _ _ _ hf hw (lv_sub hl [4, 5, 6, 7, 2, 1, 8, 0] rfl)
  · have hf := x_pos hc hf
    refine lv_iload hx hb dX7_who_97 (lv_at hl 0 rfl) ?_
    refine lv_goto (tgt := 103) hx hb dX7_who_99 (by decide) ?_
    refine lv_iadd hx hb dX7_who_103 ?_
    refine x_leti hf (fun v16 hf => ?_)
    refine lv_istore (lv' := [(4, .int v16), (8, .int s0), (0, .ref (q 0)), (1, .int x1), (2, .int x2), (3, .int x3), (5, .int x5), (6, .int x6), (7, .int x7)]) hx hb dX7_who_104 hl (by decide) rfl (fun ls hl => ?_)
    refine lv_iload hx hb dX7_who_106 (lv_at hl 6 rfl) ?_
    refine lv_iload hx hb dX7_who_108 (lv_at hl 1 rfl) ?_
    refine lv_iadd hx hb dX7_who_110 ?_
    refine x_leti hf (fun v17 hf => ?_)
    refine lv_istore (lv' := [(5, .int v17), (4, .int v16), (8, .int s0), (0, .ref (q 0)), (1, .int x1), (2, .int x2), (3, .int x3), (6, .int x6), (7, .int x7)]) hx hb dX7_who_111 hl (by decide) rfl (fun ls hl => ?_)
    refine lv_iinc (v := x7 + 1) (lv' := [(7, .int (x7 + 1)), (5, .int v17), (4, .int v16), (8, .int s0), (0, .ref (q 0)), (1, .int x1), (2, .int x2), (3, .int x3), (6, .int x6)]) hx hb dX7_who_113 hl (k := 8) rfl xi_1 (by decide) rfl (fun ls hl => ?_)
    refine lv_goto (tgt := 49) hx hb dX7_who_116 (by decide) ?_
    exact hK49 x1 x2 x3 v16 v17 x6 (x7 + 1) S _ _ _ hf hw (lv_sub hl [4, 5, 6, 7, 2, 1, 8, 0] rfl)

set_option maxHeartbeats 4000000 in
theorem jMod_who_b49_ok (B : XB p s m args meth c A cX7_who 9 (some .int) RX7) {SF : St} {r : Int32} (K35 : Int32 → Int32 → Int32 → Int32 → Int32 → Int32 → St → Option (Int32 × St)) (hK35 : ∀ (x1 : Int32) (x2 : Int32) (x3 : Int32) (x4 : Int32) (x5 : Int32) (x6 : Int32) (S : St) (H : Heap) (locs : List Loc) (ls : Array Slot), K35 x1 x2 x3 x4 x5 x6 S = some (r, SF) → Xw D 17 (cellM T q) q T ExM A s S H locs → lv_has ls 9 [(0, .ref (q 0)), (1, .int x1), (2, .int x2), (3, .int x3), (4, .int x4), (5, .int x5), (6, .int x6)] → XG p l e ({ frames := 2, cells := 0, slots := 0, locals := 43 }) s m args below meth c D 17 (cellM T q) q T A SF (some (.int r)) H locs 35 ls []) (K49 : Int32 → Int32 → Int32 → Int32 → Int32 → Int32 → Int32 → St → Option (Int32 × St)) (hK49 : ∀ (x1 : Int32) (x2 : Int32) (x3 : Int32) (x4 : Int32) (x5 : Int32) (x6 : Int32) (x7 : Int32) (S : St) (H : Heap) (locs : List Loc) (ls : Array Slot), K49 x1 x2 x3 x4 x5 x6 x7 S = some (r, SF) → Xw D 17 (cellM T q) q T ExM A s S H locs → lv_has ls 9 [(0, .ref (q 0)), (1, .int x1), (2, .int x2), (3, .int x3), (4, .int x4), (5, .int x5), (6, .int x6), (7, .int x7)] → XG p l e ({ frames := 2, cells := 0, slots := 0, locals := 43 }) s m args below meth c D 17 (cellM T q) q T A SF (some (.int r)) H locs 49 ls [])  (x1 : Int32) (x2 : Int32) (x3 : Int32) (x4 : Int32) (x5 : Int32) (x6 : Int32) (x7 : Int32) (S : St) {H : Heap} {locs : List Loc} {ls : Array Slot} (hf : jMod_who_b49 K35 K49 x1 x2 x3 x4 x5 x6 x7 S = some (r, SF)) (hw : Xw D 17 (cellM T q) q T ExM A s S H locs) (hl : lv_has ls 9 [(0, .ref (q 0)), (1, .int x1), (2, .int x2), (3, .int x3), (4, .int x4), (5, .int x5), (6, .int x6), (7, .int x7)]) : XG p l e ({ frames := 2, cells := 0, slots := 0, locals := 43 }) s m args below meth c D 17 (cellM T q) q T A SF (some (.int r)) H locs 49 ls [] := by
  unfold jMod_who_b49 at hf
  obtain ⟨hx, hb, hr, hml, hown, hts, hlk, hA⟩ := id B
  refine lv_iload hx hb dX7_who_49 (lv_at hl 7 rfl) ?_
  refine lv_aload_n hx hb dX7_who_51 rfl (lv_at hl 0 rfl) ?_
  refine x_get B hw (Tb := TX7) inX7 0 (by decide) rfl rfl 5 (by decide) u695 (fun _ h => h) rfl dX7_who_52 ?_
  refine lv_iconst (v := 0) hx hb dX7_who_55 (by decide) ?_
  refine x_iald B hw 4 (by decide) rfl dX7_who_56 hf (fun v11 hf => ?_)
  refine lv_icmp_ge (tgt := 119) hx hb dX7_who_57 (by decide) (fun hc => ?_) (fun hc => ?_)
  · have hf := x_pos hc hf
    refine lv_iinc (v := x6 + 1) (lv' := [(6, .int (x6 + 1)), (0, .ref (q 0)), (1, .int x1), (2, .int x2), (3, .int x3), (4, .int x4), (5, .int x5), (7, .int x7)]) hx hb dX7_who_119 hl (k := 6) rfl xi_1 (by decide) rfl (fun ls hl => ?_)
    refine lv_goto (tgt := 35) hx hb dX7_who_122 (by decide) ?_
    exact hK35 x1 x2 x3 x4 x5 (x6 + 1) S _ _ _ hf hw (lv_sub hl [1, 2, 3, 4, 5, 6, 0] rfl)
  · have hf := x_neg hc hf
    refine lv_aload_n hx hb dX7_who_60 rfl (lv_at hl 0 rfl) ?_
    refine lv_iload hx hb dX7_who_61 (lv_at hl 6 rfl) ?_
    refine lv_iload hx hb dX7_who_63 (lv_at hl 7 rfl) ?_
    obtain ⟨v13, S12, hc, hf⟩ := x_bd_some hf
    refine x_callV B ExM_ok hw 0 (by decide) rfl rfl (As := [.int x6, .int x7]) (rest := []) (st1 := [.int v13]) (jMod_canCook_ok hc) u831 u833 u26 u45 u834 hdX7_canCook rfl ⟨Nat.le_of_ble_eq_true rfl, Nat.le_of_ble_eq_true rfl⟩ ⟨rfl, rfl⟩ hl.1 (Nat.le_of_ble_eq_true rfl) dX7_who_65 (fun H locs hw => ?_) rfl rfl
    refine lv_if_eq (tgt := 86) hx hb dX7_who_68 (by decide) (fun hc => ?_) (fun hc => ?_)
    · have hf := x_pos hc hf
      refine lv_iconst (v := 0) hx hb dX7_who_86 (by decide) ?_
      exact jMod_who_b87_ok B K35 hK35 K49 hK49 x1 x2 x3 x4 x5 x6 x7 0 S12 hf hw (lv_sub hl [0, 1, 2, 3, 4, 5, 6, 7] rfl)
    · have hf := x_neg hc hf
      refine lv_aload_n hx hb dX7_who_71 rfl (lv_at hl 0 rfl) ?_
      refine lv_aload_n hx hb dX7_who_72 rfl (lv_at hl 0 rfl) ?_
      refine x_get B hw (Tb := TX7) inX7 0 (by decide) rfl rfl 7 (by decide) u697 (fun _ h => h) rfl dX7_who_73 ?_
      refine lv_iload hx hb dX7_who_76 (lv_at hl 7 rfl) ?_
      refine x_iald B hw 6 (by decide) rfl dX7_who_78 hf (fun v18 hf => ?_)
      refine lv_iload_n hx hb dX7_who_79 rfl (lv_at hl 1 rfl) ?_
      obtain ⟨v20, S19, hc, hf⟩ := x_bd_some hf
      refine x_callV B ExM_ok hw 0 (by decide) rfl rfl (As := [.int v18, .int x1]) (rest := []) (st1 := [.int v20]) (jMod_readAs_ok hc) u892 u894 u31 u45 u895 hdX7_readAs rfl ⟨Nat.le_of_ble_eq_true rfl, Nat.le_of_ble_eq_true rfl⟩ ⟨rfl, rfl⟩ hl.1 (Nat.le_of_ble_eq_true rfl) dX7_who_80 (fun H locs hw => ?_) rfl rfl
      refine lv_goto (tgt := 87) hx hb dX7_who_83 (by decide) ?_
      exact jMod_who_b87_ok B K35 hK35 K49 hK49 x1 x2 x3 x4 x5 x6 x7 v20 S19 hf hw (lv_sub hl [0, 1, 2, 3, 4, 5, 6, 7] rfl)

theorem jMod_who_h49_ok (B : XB p s m args meth c A cX7_who 9 (some .int) RX7) {SF : St} {r : Int32} (K35 : Int32 → Int32 → Int32 → Int32 → Int32 → Int32 → St → Option (Int32 × St)) (hK35 : ∀ (x1 : Int32) (x2 : Int32) (x3 : Int32) (x4 : Int32) (x5 : Int32) (x6 : Int32) (S : St) (H : Heap) (locs : List Loc) (ls : Array Slot), K35 x1 x2 x3 x4 x5 x6 S = some (r, SF) → Xw D 17 (cellM T q) q T ExM A s S H locs → lv_has ls 9 [(0, .ref (q 0)), (1, .int x1), (2, .int x2), (3, .int x3), (4, .int x4), (5, .int x5), (6, .int x6)] → XG p l e ({ frames := 2, cells := 0, slots := 0, locals := 43 }) s m args below meth c D 17 (cellM T q) q T A SF (some (.int r)) H locs 35 ls []) : ∀ (n : Nat) (x1 : Int32) (x2 : Int32) (x3 : Int32) (x4 : Int32) (x5 : Int32) (x6 : Int32) (x7 : Int32) (S : St) (H : Heap) (locs : List Loc) (ls : Array Slot), jMod_who_h49 K35 n x1 x2 x3 x4 x5 x6 x7 S = some (r, SF) → Xw D 17 (cellM T q) q T ExM A s S H locs → lv_has ls 9 [(0, .ref (q 0)), (1, .int x1), (2, .int x2), (3, .int x3), (4, .int x4), (5, .int x5), (6, .int x6), (7, .int x7)] → XG p l e ({ frames := 2, cells := 0, slots := 0, locals := 43 }) s m args below meth c D 17 (cellM T q) q T A SF (some (.int r)) H locs 49 ls [] := by
  intro n
  induction n with
  | zero =>
    intro x1 x2 x3 x4 x5 x6 x7 S H locs ls hf hw hl
    rw [jMod_who_h49] at hf
    cases hf
  | succ n ih =>
    intro x1 x2 x3 x4 x5 x6 x7 S H locs ls hf hw hl
    rw [jMod_who_h49] at hf
    exact jMod_who_b49_ok B K35 hK35 (jMod_who_h49 K35 n) ih x1 x2 x3 x4 x5 x6 x7 S hf hw hl

set_option maxHeartbeats 4000000 in
theorem jMod_who_b35_ok (B : XB p s m args meth c A cX7_who 9 (some .int) RX7) {SF : St} {r : Int32} (K35 : Int32 → Int32 → Int32 → Int32 → Int32 → Int32 → St → Option (Int32 × St)) (hK35 : ∀ (x1 : Int32) (x2 : Int32) (x3 : Int32) (x4 : Int32) (x5 : Int32) (x6 : Int32) (S : St) (H : Heap) (locs : List Loc) (ls : Array Slot), K35 x1 x2 x3 x4 x5 x6 S = some (r, SF) → Xw D 17 (cellM T q) q T ExM A s S H locs → lv_has ls 9 [(0, .ref (q 0)), (1, .int x1), (2, .int x2), (3, .int x3), (4, .int x4), (5, .int x5), (6, .int x6)] → XG p l e ({ frames := 2, cells := 0, slots := 0, locals := 43 }) s m args below meth c D 17 (cellM T q) q T A SF (some (.int r)) H locs 35 ls [])  (x1 : Int32) (x2 : Int32) (x3 : Int32) (x4 : Int32) (x5 : Int32) (x6 : Int32) (S : St) {H : Heap} {locs : List Loc} {ls : Array Slot} (hf : jMod_who_b35 K35 x1 x2 x3 x4 x5 x6 S = some (r, SF)) (hw : Xw D 17 (cellM T q) q T ExM A s S H locs) (hl : lv_has ls 9 [(0, .ref (q 0)), (1, .int x1), (2, .int x2), (3, .int x3), (4, .int x4), (5, .int x5), (6, .int x6)]) : XG p l e ({ frames := 2, cells := 0, slots := 0, locals := 43 }) s m args below meth c D 17 (cellM T q) q T A SF (some (.int r)) H locs 35 ls [] := by
  unfold jMod_who_b35 at hf
  obtain ⟨hx, hb, hr, hml, hown, hts, hlk, hA⟩ := id B
  refine lv_iload hx hb dX7_who_35 (lv_at hl 6 rfl) ?_
  refine lv_aload_n hx hb dX7_who_37 rfl (lv_at hl 0 rfl) ?_
  refine x_get B hw (Tb := TX7) inX7 0 (by decide) rfl rfl 3 (by decide) u693 (fun _ h => h) rfl dX7_who_38 ?_
  refine lv_iconst (v := 0) hx hb dX7_who_41 (by decide) ?_
  refine x_iald B hw 2 (by decide) rfl dX7_who_42 hf (fun v7 hf => ?_)
  refine lv_icmp_ge (tgt := 125) hx hb dX7_who_43 (by decide) (fun hc => ?_) (fun hc => ?_)
  · have hf := x_pos hc hf
    refine lv_iload hx hb dX7_who_125 (lv_at hl 5 rfl) ?_
    refine lv_if_ne (tgt := 133) hx hb dX7_who_127 (by decide) (fun hc => ?_) (fun hc => ?_)
    · have hf := x_neg hc hf
      refine lv_iload hx hb dX7_who_133 (lv_at hl 4 rfl) ?_
      refine lv_i2l (v := Int32.toInt64 x4) hx hb dX7_who_135 rfl ?_
      refine lv_iload hx hb dX7_who_136 (lv_at hl 5 rfl) ?_
      refine lv_i2l (v := Int32.toInt64 x5) hx hb dX7_who_138 rfl ?_
      obtain ⟨v9, S8, hc, hf⟩ := x_bd_some hf
      refine x_callS B ExM_ok hw (As := [.long (Int32.toInt64 x4), .long (Int32.toInt64 x5)]) (rest := []) (st1 := [.long v9]) (jMod_common_ok hc) u914 u915 u45 u916 hdX7_common rfl ⟨Nat.le_of_ble_eq_true rfl, Nat.le_of_ble_eq_true rfl⟩ ⟨rfl, rfl⟩ hl.1 (Nat.le_of_ble_eq_true rfl) dX7_who_139 (fun H locs hw => ?_) rfl rfl
      refine lv_l2i (v := Int64.toInt32 v9) hx hb dX7_who_142 rfl ?_
      refine x_leti hf (fun v10 hf => ?_)
      refine lv_istore (lv' := [(6, .int v10), (0, .ref (q 0)), (1, .int x1), (2, .int x2), (3, .int x3), (4, .int x4), (5, .int x5)]) hx hb dX7_who_143 hl (by decide) rfl (fun ls hl => ?_)
      refine lv_iload_n hx hb dX7_who_145 rfl (lv_at hl 4 rfl) ?_
      refine lv_if_ne (tgt := 157) hx hb dX7_who_146 (by decide) (fun hc => ?_) (fun hc => ?_)
      · have hf := x_neg hc hf
        refine lv_iload hx hb dX7_who_157 (lv_at hl 6 rfl) ?_
        refine lv_iload hx hb dX7_who_159 (lv_at hl 0 rfl) ?_
        obtain ⟨hne, hf⟩ := x_ng hf
        refine lv_idiv hx hb dX7_who_161 hne ?_
        exact x_iret B hw hf dX7_who_162
      · have hf := x_pos hc hf
        refine lv_iload hx hb dX7_who_149 (lv_at hl 5 rfl) ?_
        refine lv_iload hx hb dX7_who_151 (lv_at hl 0 rfl) ?_
        obtain ⟨hne, hf⟩ := x_ng hf
        refine lv_idiv hx hb dX7_who_153 hne ?_
        refine lv_goto (tgt := 162) hx hb dX7_who_154 (by decide) ?_
        exact x_iret B hw hf dX7_who_162
    · have hf := x_pos hc hf
      refine lv_bipush (v := (-2)) hx hb dX7_who_130 (by decide) ?_
      exact x_iret B hw hf dX7_who_132
  · have hf := x_neg hc hf
    refine lv_iconst (v := 0) hx hb dX7_who_46 (by decide) ?_
    refine lv_istore (lv' := [(7, .int 0), (0, .ref (q 0)), (1, .int x1), (2, .int x2), (3, .int x3), (4, .int x4), (5, .int x5), (6, .int x6)]) hx hb dX7_who_47 hl (by decide) rfl (fun ls hl => ?_)
    exact jMod_who_h49_ok B K35 hK35 FU x1 x2 x3 x4 x5 x6 0 S _ _ _ hf hw (lv_sub hl [1, 2, 3, 4, 5, 6, 7, 0] rfl)

theorem jMod_who_h35_ok (B : XB p s m args meth c A cX7_who 9 (some .int) RX7) {SF : St} {r : Int32} : ∀ (n : Nat) (x1 : Int32) (x2 : Int32) (x3 : Int32) (x4 : Int32) (x5 : Int32) (x6 : Int32) (S : St) (H : Heap) (locs : List Loc) (ls : Array Slot), jMod_who_h35 n x1 x2 x3 x4 x5 x6 S = some (r, SF) → Xw D 17 (cellM T q) q T ExM A s S H locs → lv_has ls 9 [(0, .ref (q 0)), (1, .int x1), (2, .int x2), (3, .int x3), (4, .int x4), (5, .int x5), (6, .int x6)] → XG p l e ({ frames := 2, cells := 0, slots := 0, locals := 43 }) s m args below meth c D 17 (cellM T q) q T A SF (some (.int r)) H locs 35 ls [] := by
  intro n
  induction n with
  | zero =>
    intro x1 x2 x3 x4 x5 x6 S H locs ls hf hw hl
    rw [jMod_who_h35] at hf
    cases hf
  | succ n ih =>
    intro x1 x2 x3 x4 x5 x6 S H locs ls hf hw hl
    rw [jMod_who_h35] at hf
    exact jMod_who_b35_ok B (jMod_who_h35 n) ih x1 x2 x3 x4 x5 x6 S hf hw hl

set_option maxHeartbeats 4000000 in
theorem jMod_who_b0_ok (B : XB p s m args meth c A cX7_who 9 (some .int) RX7) {SF : St} {r : Int32}  (x1 : Int32) (x2 : Int32) (x3 : Int32) (S : St) {H : Heap} {locs : List Loc} {ls : Array Slot} (hf : jMod_who x1 x2 x3 S = some (r, SF)) (hw : Xw D 17 (cellM T q) q T ExM A s S H locs) (hl : lv_has ls 9 [(0, .ref (q 0)), (1, .int x1), (2, .int x2), (3, .int x3)]) : XG p l e ({ frames := 2, cells := 0, slots := 0, locals := 43 }) s m args below meth c D 17 (cellM T q) q T A SF (some (.int r)) H locs 0 ls [] := by
  unfold jMod_who at hf
  obtain ⟨hx, hb, hr, hml, hown, hts, hlk, hA⟩ := id B
  refine lv_iload_n hx hb dX7_who_0 rfl (lv_at hl 1 rfl) ?_
  obtain ⟨v2, S1, hc, hf⟩ := x_bd_some hf
  refine x_callS B ExM_ok hw (As := [.int x1]) (rest := []) (st1 := [.int v2]) (jMod_isSmoke_ok hc) u889 u890 u45 u891 hdX7_isSmoke rfl ⟨Nat.le_of_ble_eq_true rfl, Nat.le_of_ble_eq_true rfl⟩ ⟨rfl, rfl⟩ hl.1 (Nat.le_of_ble_eq_true rfl) dX7_who_1 (fun H locs hw => ?_) rfl rfl
  refine lv_if_eq (tgt := 24) hx hb dX7_who_4 (by decide) (fun hc => ?_) (fun hc => ?_)
  · have hf := x_pos hc hf
    refine lv_iconst (v := (-1)) hx hb dX7_who_24 (by decide) ?_
    exact x_iret B hw hf dX7_who_25
  · have hf := x_neg hc hf
    refine lv_aload_n hx hb dX7_who_7 rfl (lv_at hl 0 rfl) ?_
    refine lv_iload_n hx hb dX7_who_8 rfl (lv_at hl 2 rfl) ?_
    obtain ⟨v4, S3, hc, hf⟩ := x_bd_some hf
    refine x_callV B ExM_ok hw 0 (by decide) rfl rfl (As := [.int x2]) (rest := []) (st1 := [.int v4]) (jMod_isHouse_ok hc) u807 u809 u22 u45 u810 hdX7_isHouse rfl ⟨Nat.le_of_ble_eq_true rfl, Nat.le_of_ble_eq_true rfl⟩ ⟨rfl, rfl⟩ hl.1 (Nat.le_of_ble_eq_true rfl) dX7_who_9 (fun H locs hw => ?_) rfl rfl
    refine lv_if_eq (tgt := 24) hx hb dX7_who_12 (by decide) (fun hc => ?_) (fun hc => ?_)
    · have hf := x_pos hc hf
      refine lv_iconst (v := (-1)) hx hb dX7_who_24 (by decide) ?_
      exact x_iret B hw hf dX7_who_25
    · have hf := x_neg hc hf
      refine lv_iload_n hx hb dX7_who_15 rfl (lv_at hl 3 rfl) ?_
      refine lv_iconst (v := 0) hx hb dX7_who_16 (by decide) ?_
      refine lv_iconst (v := 1) hx hb dX7_who_17 (by decide) ?_
      obtain ⟨v6, S5, hc, hf⟩ := x_bd_some hf
      refine x_callS B ExM_ok hw (As := [.int x3, .int 0, .int 1]) (rest := []) (st1 := [.int v6]) (jMod_in_ok hc) u768 u769 u45 u770 hdX7_in rfl ⟨Nat.le_of_ble_eq_true rfl, Nat.le_of_ble_eq_true rfl⟩ ⟨rfl, rfl⟩ hl.1 (Nat.le_of_ble_eq_true rfl) dX7_who_18 (fun H locs hw => ?_) rfl rfl
      refine lv_if_ne (tgt := 26) hx hb dX7_who_21 (by decide) (fun hc => ?_) (fun hc => ?_)
      · have hf := x_neg hc hf
        refine lv_iconst (v := 0) hx hb dX7_who_26 (by decide) ?_
        refine lv_istore (lv' := [(4, .int 0), (0, .ref (q 0)), (1, .int x1), (2, .int x2), (3, .int x3)]) hx hb dX7_who_27 hl (by decide) rfl (fun ls hl => ?_)
        refine lv_iconst (v := 0) hx hb dX7_who_29 (by decide) ?_
        refine lv_istore (lv' := [(5, .int 0), (4, .int 0), (0, .ref (q 0)), (1, .int x1), (2, .int x2), (3, .int x3)]) hx hb dX7_who_30 hl (by decide) rfl (fun ls hl => ?_)
        refine lv_iconst (v := 0) hx hb dX7_who_32 (by decide) ?_
        refine lv_istore (lv' := [(6, .int 0), (5, .int 0), (4, .int 0), (0, .ref (q 0)), (1, .int x1), (2, .int x2), (3, .int x3)]) hx hb dX7_who_33 hl (by decide) rfl (fun ls hl => ?_)
        exact jMod_who_h35_ok B FU x1 x2 x3 0 0 0 S5 _ _ _ hf hw (lv_sub hl [3, 4, 5, 6, 2, 1, 0] rfl)
      · have hf := x_pos hc hf
        refine lv_iconst (v := (-1)) hx hb dX7_who_24 (by decide) ?_
        exact x_iret B hw hf dX7_who_25

set_option maxHeartbeats 4000000 in
theorem jMod_who_ok {x1 : Int32} {x2 : Int32} {x3 : Int32} {S SF : St} {r : Int32} (hf : jMod_who x1 x2 x3 S = some (r, SF)) : XMet l D 17 (cellM T q) q T ExM yX7_who cX7_who 9 (some .int) ({ frames := 2, cells := 0, slots := 0, locals := 43 }) [.ref (q 0), .int x1, .int x2, .int x3] S (some (.int r)) SF := by
  refine x_enter (own := RX7) (by decide +kernel) rfl (Nat.le_of_ble_eq_true rfl) (fun p e s m below meth c A B ls hw hl0 => ?_)
  have hl : lv_has ls 9 [(0, .ref (q 0)), (1, .int x1), (2, .int x2), (3, .int x3)] := hl0
  exact jMod_who_b0_ok B x1 x2 x3 S hf hw hl

set_option maxHeartbeats 4000000 in
theorem jMod_nextSupper_b43_ok (B : XB p s m args meth c A cX7_nextSupper 5 (some .int) RX7) {SF : St} {r : Int32} (K5 : Int32 → Int32 → St → Option (Int32 × St)) (hK5 : ∀ (x1 : Int32) (x2 : Int32) (S : St) (H : Heap) (locs : List Loc) (ls : Array Slot), K5 x1 x2 S = some (r, SF) → Xw D 17 (cellM T q) q T ExM A s S H locs → lv_has ls 5 [(0, .ref (q 0)), (1, .int x1), (2, .int x2)] → XG p l e ({ frames := 1, cells := 0, slots := 0, locals := 23 }) s m args below meth c D 17 (cellM T q) q T A SF (some (.int r)) H locs 5 ls []) (K43 : Int32 → Int32 → Int32 → Int32 → St → Option (Int32 × St)) (hK43 : ∀ (x1 : Int32) (x2 : Int32) (x3 : Int32) (x4 : Int32) (S : St) (H : Heap) (locs : List Loc) (ls : Array Slot), K43 x1 x2 x3 x4 S = some (r, SF) → Xw D 17 (cellM T q) q T ExM A s S H locs → lv_has ls 5 [(0, .ref (q 0)), (1, .int x1), (2, .int x2), (3, .int x3), (4, .int x4)] → XG p l e ({ frames := 1, cells := 0, slots := 0, locals := 23 }) s m args below meth c D 17 (cellM T q) q T A SF (some (.int r)) H locs 43 ls [])  (x1 : Int32) (x2 : Int32) (x3 : Int32) (x4 : Int32) (S : St) {H : Heap} {locs : List Loc} {ls : Array Slot} (hf : jMod_nextSupper_b43 K5 K43 x1 x2 x3 x4 S = some (r, SF)) (hw : Xw D 17 (cellM T q) q T ExM A s S H locs) (hl : lv_has ls 5 [(0, .ref (q 0)), (1, .int x1), (2, .int x2), (3, .int x3), (4, .int x4)]) : XG p l e ({ frames := 1, cells := 0, slots := 0, locals := 23 }) s m args below meth c D 17 (cellM T q) q T A SF (some (.int r)) H locs 43 ls [] := by
  unfold jMod_nextSupper_b43 at hf
  obtain ⟨hx, hb, hr, hml, hown, hts, hlk, hA⟩ := id B
  refine lv_iload hx hb dX7_nextSupper_43 (lv_at hl 4 rfl) ?_
  refine lv_iconst (v := 5) hx hb dX7_nextSupper_45 (by decide) ?_
  refine lv_icmp_ge (tgt := 86) hx hb dX7_nextSupper_46 (by decide) (fun hc => ?_) (fun hc => ?_)
  · have hf := x_pos hc hf
    refine lv_iload_n hx hb dX7_nextSupper_86 rfl (lv_at hl 3 rfl) ?_
    refine lv_if_eq (tgt := 94) hx hb dX7_nextSupper_87 (by decide) (fun hc => ?_) (fun hc => ?_)
    · have hf := x_pos hc hf
      refine lv_iload_n hx hb dX7_nextSupper_94 rfl (lv_at hl 1 rfl) ?_
      refine lv_istore_n (lv' := [(1, .int x1), (0, .ref (q 0)), (2, .int x2), (3, .int x3), (4, .int x4)]) hx hb dX7_nextSupper_95 rfl hl (by decide) rfl (fun ls hl => ?_)
      refine lv_iinc (v := x2 + 1) (lv' := [(2, .int (x2 + 1)), (1, .int x1), (0, .ref (q 0)), (3, .int x3), (4, .int x4)]) hx hb dX7_nextSupper_96 hl (k := 2) rfl xi_1 (by decide) rfl (fun ls hl => ?_)
      refine lv_goto (tgt := 5) hx hb dX7_nextSupper_99 (by decide) ?_
      exact hK5 x1 (x2 + 1) S _ _ _ hf hw (lv_sub hl [2, 1, 0] rfl)
    · have hf := x_neg hc hf
      refine lv_iload_n hx hb dX7_nextSupper_90 rfl (lv_at hl 2 rfl) ?_
      refine lv_goto (tgt := 95) hx hb dX7_nextSupper_91 (by decide) ?_
      refine lv_istore_n (lv' := [(1, .int x2), (0, .ref (q 0)), (2, .int x2), (3, .int x3), (4, .int x4)]) hx hb dX7_nextSupper_95 rfl hl (by decide) rfl (fun ls hl => ?_)
      refine lv_iinc (v := x2 + 1) (lv' := [(2, .int (x2 + 1)), (1, .int x2), (0, .ref (q 0)), (3, .int x3), (4, .int x4)]) hx hb dX7_nextSupper_96 hl (k := 2) rfl xi_1 (by decide) rfl (fun ls hl => ?_)
      refine lv_goto (tgt := 5) hx hb dX7_nextSupper_99 (by decide) ?_
      exact hK5 x2 (x2 + 1) S _ _ _ hf hw (lv_sub hl [2, 1, 0] rfl)
  · have hf := x_neg hc hf
    refine lv_iload_n hx hb dX7_nextSupper_49 rfl (lv_at hl 3 rfl) ?_
    refine lv_if_eq (tgt := 78) hx hb dX7_nextSupper_50 (by decide) (fun hc => ?_) (fun hc => ?_)
    · have hf := x_pos hc hf
      refine lv_iconst (v := 0) hx hb dX7_nextSupper_78 (by decide) ?_
      refine lv_istore_n (lv' := [(3, .int 0), (0, .ref (q 0)), (1, .int x1), (2, .int x2), (4, .int x4)]) hx hb dX7_nextSupper_79 rfl hl (by decide) rfl (fun ls hl => ?_)
      refine lv_iinc (v := x4 + 1) (lv' := [(4, .int (x4 + 1)), (3, .int 0), (0, .ref (q 0)), (1, .int x1), (2, .int x2)]) hx hb dX7_nextSupper_80 hl (k := 4) rfl xi_1 (by decide) rfl (fun ls hl => ?_)
      refine lv_goto (tgt := 43) hx hb dX7_nextSupper_83 (by decide) ?_
      exact hK43 x1 x2 0 (x4 + 1) S _ _ _ hf hw (lv_sub hl [2, 3, 4, 1, 0] rfl)
    · have hf := x_neg hc hf
      refine lv_aload_n hx hb dX7_nextSupper_53 rfl (lv_at hl 0 rfl) ?_
      refine x_get B hw (Tb := TX7) inX7 0 (by decide) rfl rfl 23 (by decide) u713 (fun _ h => h) rfl dX7_nextSupper_54 ?_
      refine lv_iload hx hb dX7_nextSupper_57 (lv_at hl 4 rfl) ?_
      refine x_iald B hw 16 (by decide) rfl dX7_nextSupper_59 hf (fun v2 hf => ?_)
      refine lv_aload_n hx hb dX7_nextSupper_60 rfl (lv_at hl 0 rfl) ?_
      refine x_get B hw (Tb := TX7) inX7 0 (by decide) rfl rfl 6 (by decide) u696 (fun _ h => h) rfl dX7_nextSupper_61 ?_
      refine lv_iconst (v := 5) hx hb dX7_nextSupper_64 (by decide) ?_
      refine lv_iload_n hx hb dX7_nextSupper_65 rfl (lv_at hl 2 rfl) ?_
      refine lv_imul hx hb dX7_nextSupper_66 ?_
      refine lv_iload hx hb dX7_nextSupper_67 (lv_at hl 4 rfl) ?_
      refine lv_iadd hx hb dX7_nextSupper_69 ?_
      refine x_iald B hw 5 (by decide) rfl dX7_nextSupper_70 hf (fun v3 hf => ?_)
      refine lv_icmp_lt (tgt := 78) hx hb dX7_nextSupper_71 (by decide) (fun hc => ?_) (fun hc => ?_)
      · have hf := x_pos hc hf
        refine lv_iconst (v := 0) hx hb dX7_nextSupper_78 (by decide) ?_
        refine lv_istore_n (lv' := [(3, .int 0), (0, .ref (q 0)), (1, .int x1), (2, .int x2), (4, .int x4)]) hx hb dX7_nextSupper_79 rfl hl (by decide) rfl (fun ls hl => ?_)
        refine lv_iinc (v := x4 + 1) (lv' := [(4, .int (x4 + 1)), (3, .int 0), (0, .ref (q 0)), (1, .int x1), (2, .int x2)]) hx hb dX7_nextSupper_80 hl (k := 4) rfl xi_1 (by decide) rfl (fun ls hl => ?_)
        refine lv_goto (tgt := 43) hx hb dX7_nextSupper_83 (by decide) ?_
        exact hK43 x1 x2 0 (x4 + 1) S _ _ _ hf hw (lv_sub hl [2, 3, 4, 1, 0] rfl)
      · have hf := x_neg hc hf
        refine lv_iconst (v := 1) hx hb dX7_nextSupper_74 (by decide) ?_
        refine lv_goto (tgt := 79) hx hb dX7_nextSupper_75 (by decide) ?_
        refine lv_istore_n (lv' := [(3, .int 1), (0, .ref (q 0)), (1, .int x1), (2, .int x2), (4, .int x4)]) hx hb dX7_nextSupper_79 rfl hl (by decide) rfl (fun ls hl => ?_)
        refine lv_iinc (v := x4 + 1) (lv' := [(4, .int (x4 + 1)), (3, .int 1), (0, .ref (q 0)), (1, .int x1), (2, .int x2)]) hx hb dX7_nextSupper_80 hl (k := 4) rfl xi_1 (by decide) rfl (fun ls hl => ?_)
        refine lv_goto (tgt := 43) hx hb dX7_nextSupper_83 (by decide) ?_
        exact hK43 x1 x2 1 (x4 + 1) S _ _ _ hf hw (lv_sub hl [2, 3, 4, 1, 0] rfl)

theorem jMod_nextSupper_h43_ok (B : XB p s m args meth c A cX7_nextSupper 5 (some .int) RX7) {SF : St} {r : Int32} (K5 : Int32 → Int32 → St → Option (Int32 × St)) (hK5 : ∀ (x1 : Int32) (x2 : Int32) (S : St) (H : Heap) (locs : List Loc) (ls : Array Slot), K5 x1 x2 S = some (r, SF) → Xw D 17 (cellM T q) q T ExM A s S H locs → lv_has ls 5 [(0, .ref (q 0)), (1, .int x1), (2, .int x2)] → XG p l e ({ frames := 1, cells := 0, slots := 0, locals := 23 }) s m args below meth c D 17 (cellM T q) q T A SF (some (.int r)) H locs 5 ls []) : ∀ (n : Nat) (x1 : Int32) (x2 : Int32) (x3 : Int32) (x4 : Int32) (S : St) (H : Heap) (locs : List Loc) (ls : Array Slot), jMod_nextSupper_h43 K5 n x1 x2 x3 x4 S = some (r, SF) → Xw D 17 (cellM T q) q T ExM A s S H locs → lv_has ls 5 [(0, .ref (q 0)), (1, .int x1), (2, .int x2), (3, .int x3), (4, .int x4)] → XG p l e ({ frames := 1, cells := 0, slots := 0, locals := 23 }) s m args below meth c D 17 (cellM T q) q T A SF (some (.int r)) H locs 43 ls [] := by
  intro n
  induction n with
  | zero =>
    intro x1 x2 x3 x4 S H locs ls hf hw hl
    rw [jMod_nextSupper_h43] at hf
    cases hf
  | succ n ih =>
    intro x1 x2 x3 x4 S H locs ls hf hw hl
    rw [jMod_nextSupper_h43] at hf
    exact jMod_nextSupper_b43_ok B K5 hK5 (jMod_nextSupper_h43 K5 n) ih x1 x2 x3 x4 S hf hw hl

set_option maxHeartbeats 4000000 in
theorem jMod_nextSupper_b5_ok (B : XB p s m args meth c A cX7_nextSupper 5 (some .int) RX7) {SF : St} {r : Int32} (K5 : Int32 → Int32 → St → Option (Int32 × St)) (hK5 : ∀ (x1 : Int32) (x2 : Int32) (S : St) (H : Heap) (locs : List Loc) (ls : Array Slot), K5 x1 x2 S = some (r, SF) → Xw D 17 (cellM T q) q T ExM A s S H locs → lv_has ls 5 [(0, .ref (q 0)), (1, .int x1), (2, .int x2)] → XG p l e ({ frames := 1, cells := 0, slots := 0, locals := 23 }) s m args below meth c D 17 (cellM T q) q T A SF (some (.int r)) H locs 5 ls [])  (x1 : Int32) (x2 : Int32) (S : St) {H : Heap} {locs : List Loc} {ls : Array Slot} (hf : jMod_nextSupper_b5 K5 x1 x2 S = some (r, SF)) (hw : Xw D 17 (cellM T q) q T ExM A s S H locs) (hl : lv_has ls 5 [(0, .ref (q 0)), (1, .int x1), (2, .int x2)]) : XG p l e ({ frames := 1, cells := 0, slots := 0, locals := 23 }) s m args below meth c D 17 (cellM T q) q T A SF (some (.int r)) H locs 5 ls [] := by
  unfold jMod_nextSupper_b5 at hf
  obtain ⟨hx, hb, hr, hml, hown, hts, hlk, hA⟩ := id B
  refine lv_iload_n hx hb dX7_nextSupper_5 rfl (lv_at hl 2 rfl) ?_
  refine lv_aload_n hx hb dX7_nextSupper_6 rfl (lv_at hl 0 rfl) ?_
  refine x_get B hw (Tb := TX7) inX7 0 (by decide) rfl rfl 5 (by decide) u695 (fun _ h => h) rfl dX7_nextSupper_7 ?_
  refine lv_iconst (v := 0) hx hb dX7_nextSupper_10 (by decide) ?_
  refine x_iald B hw 4 (by decide) rfl dX7_nextSupper_11 hf (fun v1 hf => ?_)
  refine lv_icmp_ge (tgt := 102) hx hb dX7_nextSupper_12 (by decide) (fun hc => ?_) (fun hc => ?_)
  · have hf := x_pos hc hf
    refine lv_iload_n hx hb dX7_nextSupper_102 rfl (lv_at hl 1 rfl) ?_
    exact x_iret B hw hf dX7_nextSupper_103
  · have hf := x_neg hc hf
    refine lv_iload_n hx hb dX7_nextSupper_15 rfl (lv_at hl 1 rfl) ?_
    refine lv_bipush (v := (-9)) hx hb dX7_nextSupper_16 (by decide) ?_
    refine lv_icmp_eq (tgt := 34) hx hb dX7_nextSupper_18 (by decide) (fun hc => ?_) (fun hc => ?_)
    · have hf := x_pos hc hf
      refine lv_iconst (v := 1) hx hb dX7_nextSupper_34 (by decide) ?_
      refine lv_goto (tgt := 39) hx hb dX7_nextSupper_35 (by decide) ?_
      refine lv_istore_n (lv' := [(3, .int 1), (0, .ref (q 0)), (1, .int x1), (2, .int x2)]) hx hb dX7_nextSupper_39 rfl hl (by decide) rfl (fun ls hl => ?_)
      refine lv_iconst (v := 0) hx hb dX7_nextSupper_40 (by decide) ?_
      refine lv_istore (lv' := [(4, .int 0), (3, .int 1), (0, .ref (q 0)), (1, .int x1), (2, .int x2)]) hx hb dX7_nextSupper_41 hl (by decide) rfl (fun ls hl => ?_)
      exact jMod_nextSupper_h43_ok B K5 hK5 FU x1 x2 1 0 S _ _ _ hf hw (lv_sub hl [2, 3, 4, 1, 0] rfl)
    · have hf := x_neg hc hf
      refine lv_aload_n hx hb dX7_nextSupper_21 rfl (lv_at hl 0 rfl) ?_
      refine lv_iload_n hx hb dX7_nextSupper_22 rfl (lv_at hl 2 rfl) ?_
      obtain ⟨v5, S4, hc, hf⟩ := x_bd_some hf
      refine x_callV B ExM_ok hw 0 (by decide) rfl rfl (As := [.int x2]) (rest := []) (st1 := [.int v5]) (jMod_unitsOf_ok hc) u823 u825 u25 u45 u826 hdX7_unitsOf rfl ⟨Nat.le_of_ble_eq_true rfl, Nat.le_of_ble_eq_true rfl⟩ ⟨rfl, rfl⟩ hl.1 (Nat.le_of_ble_eq_true rfl) dX7_nextSupper_23 (fun H locs hw => ?_) rfl rfl
      refine lv_aload_n hx hb dX7_nextSupper_26 rfl (lv_at hl 0 rfl) ?_
      refine lv_iload_n hx hb dX7_nextSupper_27 rfl (lv_at hl 1 rfl) ?_
      obtain ⟨v7, S6, hc, hf⟩ := x_bd_some hf
      refine x_callV B ExM_ok hw 0 (by decide) rfl rfl (As := [.int x1]) (rest := [.int v5]) (st1 := [.int v7, .int v5]) (jMod_unitsOf_ok hc) u823 u825 u25 u45 u826 hdX7_unitsOf rfl ⟨Nat.le_of_ble_eq_true rfl, Nat.le_of_ble_eq_true rfl⟩ ⟨rfl, rfl⟩ hl.1 (Nat.le_of_ble_eq_true rfl) dX7_nextSupper_28 (fun H locs hw => ?_) rfl rfl
      refine lv_icmp_ge (tgt := 38) hx hb dX7_nextSupper_31 (by decide) (fun hc => ?_) (fun hc => ?_)
      · have hf := x_pos hc hf
        refine lv_iconst (v := 0) hx hb dX7_nextSupper_38 (by decide) ?_
        refine lv_istore_n (lv' := [(3, .int 0), (0, .ref (q 0)), (1, .int x1), (2, .int x2)]) hx hb dX7_nextSupper_39 rfl hl (by decide) rfl (fun ls hl => ?_)
        refine lv_iconst (v := 0) hx hb dX7_nextSupper_40 (by decide) ?_
        refine lv_istore (lv' := [(4, .int 0), (3, .int 0), (0, .ref (q 0)), (1, .int x1), (2, .int x2)]) hx hb dX7_nextSupper_41 hl (by decide) rfl (fun ls hl => ?_)
        exact jMod_nextSupper_h43_ok B K5 hK5 FU x1 x2 0 0 S6 _ _ _ hf hw (lv_sub hl [2, 3, 4, 1, 0] rfl)
      · have hf := x_neg hc hf
        refine lv_iconst (v := 1) hx hb dX7_nextSupper_34 (by decide) ?_
        refine lv_goto (tgt := 39) hx hb dX7_nextSupper_35 (by decide) ?_
        refine lv_istore_n (lv' := [(3, .int 1), (0, .ref (q 0)), (1, .int x1), (2, .int x2)]) hx hb dX7_nextSupper_39 rfl hl (by decide) rfl (fun ls hl => ?_)
        refine lv_iconst (v := 0) hx hb dX7_nextSupper_40 (by decide) ?_
        refine lv_istore (lv' := [(4, .int 0), (3, .int 1), (0, .ref (q 0)), (1, .int x1), (2, .int x2)]) hx hb dX7_nextSupper_41 hl (by decide) rfl (fun ls hl => ?_)
        exact jMod_nextSupper_h43_ok B K5 hK5 FU x1 x2 1 0 S6 _ _ _ hf hw (lv_sub hl [2, 3, 4, 1, 0] rfl)

theorem jMod_nextSupper_h5_ok (B : XB p s m args meth c A cX7_nextSupper 5 (some .int) RX7) {SF : St} {r : Int32} : ∀ (n : Nat) (x1 : Int32) (x2 : Int32) (S : St) (H : Heap) (locs : List Loc) (ls : Array Slot), jMod_nextSupper_h5 n x1 x2 S = some (r, SF) → Xw D 17 (cellM T q) q T ExM A s S H locs → lv_has ls 5 [(0, .ref (q 0)), (1, .int x1), (2, .int x2)] → XG p l e ({ frames := 1, cells := 0, slots := 0, locals := 23 }) s m args below meth c D 17 (cellM T q) q T A SF (some (.int r)) H locs 5 ls [] := by
  intro n
  induction n with
  | zero =>
    intro x1 x2 S H locs ls hf hw hl
    rw [jMod_nextSupper_h5] at hf
    cases hf
  | succ n ih =>
    intro x1 x2 S H locs ls hf hw hl
    rw [jMod_nextSupper_h5] at hf
    exact jMod_nextSupper_b5_ok B (jMod_nextSupper_h5 n) ih x1 x2 S hf hw hl

set_option maxHeartbeats 4000000 in
theorem jMod_nextSupper_b0_ok (B : XB p s m args meth c A cX7_nextSupper 5 (some .int) RX7) {SF : St} {r : Int32}  (S : St) {H : Heap} {locs : List Loc} {ls : Array Slot} (hf : jMod_nextSupper S = some (r, SF)) (hw : Xw D 17 (cellM T q) q T ExM A s S H locs) (hl : lv_has ls 5 [(0, .ref (q 0))]) : XG p l e ({ frames := 1, cells := 0, slots := 0, locals := 23 }) s m args below meth c D 17 (cellM T q) q T A SF (some (.int r)) H locs 0 ls [] := by
  unfold jMod_nextSupper at hf
  obtain ⟨hx, hb, hr, hml, hown, hts, hlk, hA⟩ := id B
  refine lv_bipush (v := (-9)) hx hb dX7_nextSupper_0 (by decide) ?_
  refine lv_istore_n (lv' := [(1, .int (-9)), (0, .ref (q 0))]) hx hb dX7_nextSupper_2 rfl hl (by decide) rfl (fun ls hl => ?_)
  refine lv_iconst (v := 0) hx hb dX7_nextSupper_3 (by decide) ?_
  refine lv_istore_n (lv' := [(2, .int 0), (1, .int (-9)), (0, .ref (q 0))]) hx hb dX7_nextSupper_4 rfl hl (by decide) rfl (fun ls hl => ?_)
  exact jMod_nextSupper_h5_ok B FU (-9) 0 S _ _ _ hf hw (lv_sub hl [2, 1, 0] rfl)

set_option maxHeartbeats 4000000 in
theorem jMod_nextSupper_ok {S SF : St} {r : Int32} (hf : jMod_nextSupper S = some (r, SF)) : XMet l D 17 (cellM T q) q T ExM yX7_nextSupper cX7_nextSupper 5 (some .int) ({ frames := 1, cells := 0, slots := 0, locals := 23 }) [.ref (q 0)] S (some (.int r)) SF := by
  refine x_enter (own := RX7) (by decide +kernel) rfl (Nat.le_of_ble_eq_true rfl) (fun p e s m below meth c A B ls hw hl0 => ?_)
  have hl : lv_has ls 5 [(0, .ref (q 0))] := hl0
  exact jMod_nextSupper_b0_ok B S hf hw hl

set_option maxHeartbeats 4000000 in
theorem jMod_days_b61_ok (B : XB p s m args meth c A cX7_days 5 (some .int) RX7) {SF : St} {r : Int32} (K46 : Int32 → Int32 → St → Option (Int32 × St)) (hK46 : ∀ (x2 : Int32) (x3 : Int32) (S : St) (H : Heap) (locs : List Loc) (ls : Array Slot), K46 x2 x3 S = some (r, SF) → Xw D 17 (cellM T q) q T ExM A s S H locs → lv_has ls 5 [(0, .ref (q 0)), (2, .int x2), (3, .int x3)] → XG p l e ({ frames := 2, cells := 0, slots := 0, locals := 47 }) s m args below meth c D 17 (cellM T q) q T A SF (some (.int r)) H locs 46 ls []) (K61 : Int32 → Int32 → Int32 → St → Option (Int32 × St)) (hK61 : ∀ (x2 : Int32) (x3 : Int32) (x4 : Int32) (S : St) (H : Heap) (locs : List Loc) (ls : Array Slot), K61 x2 x3 x4 S = some (r, SF) → Xw D 17 (cellM T q) q T ExM A s S H locs → lv_has ls 5 [(0, .ref (q 0)), (2, .int x2), (3, .int x3), (4, .int x4)] → XG p l e ({ frames := 2, cells := 0, slots := 0, locals := 47 }) s m args below meth c D 17 (cellM T q) q T A SF (some (.int r)) H locs 61 ls [])  (x2 : Int32) (x3 : Int32) (x4 : Int32) (S : St) {H : Heap} {locs : List Loc} {ls : Array Slot} (hf : jMod_days_b61 K46 K61 x2 x3 x4 S = some (r, SF)) (hw : Xw D 17 (cellM T q) q T ExM A s S H locs) (hl : lv_has ls 5 [(0, .ref (q 0)), (2, .int x2), (3, .int x3), (4, .int x4)]) : XG p l e ({ frames := 2, cells := 0, slots := 0, locals := 47 }) s m args below meth c D 17 (cellM T q) q T A SF (some (.int r)) H locs 61 ls [] := by
  unfold jMod_days_b61 at hf
  obtain ⟨hx, hb, hr, hml, hown, hts, hlk, hA⟩ := id B
  refine lv_iload hx hb dX7_days_61 (lv_at hl 3 rfl) ?_
  refine lv_iconst (v := 5) hx hb dX7_days_63 (by decide) ?_
  refine lv_icmp_ge (tgt := 94) hx hb dX7_days_64 (by decide) (fun hc => ?_) (fun hc => ?_)
  · have hf := x_pos hc hf
    refine lv_iinc (v := x2 + 1) (lv' := [(2, .int (x2 + 1)), (0, .ref (q 0)), (3, .int x3), (4, .int x4)]) hx hb dX7_days_94 hl (k := 1) rfl xi_1 (by decide) rfl (fun ls hl => ?_)
    refine lv_aload_n hx hb dX7_days_97 rfl (lv_at hl 1 rfl) ?_
    obtain ⟨v6, S5, hc, hf⟩ := x_bd_some hf
    refine x_callV B ExM_ok hw 0 (by decide) rfl rfl (As := []) (rest := []) (st1 := [.int v6]) (jMod_nextSupper_ok hc) u925 u927 u34 u45 u928 hdX7_nextSupper rfl ⟨Nat.le_of_ble_eq_true rfl, Nat.le_of_ble_eq_true rfl⟩ ⟨rfl, rfl⟩ hl.1 (Nat.le_of_ble_eq_true rfl) dX7_days_98 (fun H locs hw => ?_) rfl rfl
    refine lv_istore_n (lv' := [(3, .int v6), (2, .int (x2 + 1)), (0, .ref (q 0)), (4, .int x4)]) hx hb dX7_days_101 rfl hl (by decide) rfl (fun ls hl => ?_)
    refine lv_goto (tgt := 46) hx hb dX7_days_102 (by decide) ?_
    exact hK46 (x2 + 1) v6 S5 _ _ _ hf hw (lv_sub hl [2, 1, 0] rfl)
  · have hf := x_neg hc hf
    refine lv_aload_n hx hb dX7_days_67 rfl (lv_at hl 0 rfl) ?_
    refine x_get B hw (Tb := TX7) inX7 0 (by decide) rfl rfl 23 (by decide) u713 (fun _ h => h) rfl dX7_days_68 ?_
    refine lv_iload hx hb dX7_days_71 (lv_at hl 3 rfl) ?_
    refine lv_dup2_11 hx hb dX7_days_73 rfl rfl ?_
    refine x_iald B hw 16 (by decide) rfl dX7_days_74 hf (fun v7 hf => ?_)
    refine lv_aload_n hx hb dX7_days_75 rfl (lv_at hl 0 rfl) ?_
    refine x_get B hw (Tb := TX7) inX7 0 (by decide) rfl rfl 6 (by decide) u696 (fun _ h => h) rfl dX7_days_76 ?_
    refine lv_iconst (v := 5) hx hb dX7_days_79 (by decide) ?_
    refine lv_iload_n hx hb dX7_days_80 rfl (lv_at hl 2 rfl) ?_
    refine lv_imul hx hb dX7_days_81 ?_
    refine lv_iload hx hb dX7_days_82 (lv_at hl 3 rfl) ?_
    refine lv_iadd hx hb dX7_days_84 ?_
    refine x_iald B hw 5 (by decide) rfl dX7_days_85 hf (fun v8 hf => ?_)
    refine lv_isub hx hb dX7_days_86 ?_
    refine x_iast B hw 16 (by decide) (fun _ _ => rfl) dX7_days_87 hf (fun S9 H locs hw hf => ?_)
    refine lv_iinc (v := x4 + 1) (lv' := [(4, .int (x4 + 1)), (0, .ref (q 0)), (2, .int x2), (3, .int x3)]) hx hb dX7_days_88 hl (k := 3) rfl xi_1 (by decide) rfl (fun ls hl => ?_)
    refine lv_goto (tgt := 61) hx hb dX7_days_91 (by decide) ?_
    exact hK61 x2 x3 (x4 + 1) S9 _ _ _ hf hw (lv_sub hl [1, 2, 3, 0] rfl)

theorem jMod_days_h61_ok (B : XB p s m args meth c A cX7_days 5 (some .int) RX7) {SF : St} {r : Int32} (K46 : Int32 → Int32 → St → Option (Int32 × St)) (hK46 : ∀ (x2 : Int32) (x3 : Int32) (S : St) (H : Heap) (locs : List Loc) (ls : Array Slot), K46 x2 x3 S = some (r, SF) → Xw D 17 (cellM T q) q T ExM A s S H locs → lv_has ls 5 [(0, .ref (q 0)), (2, .int x2), (3, .int x3)] → XG p l e ({ frames := 2, cells := 0, slots := 0, locals := 47 }) s m args below meth c D 17 (cellM T q) q T A SF (some (.int r)) H locs 46 ls []) : ∀ (n : Nat) (x2 : Int32) (x3 : Int32) (x4 : Int32) (S : St) (H : Heap) (locs : List Loc) (ls : Array Slot), jMod_days_h61 K46 n x2 x3 x4 S = some (r, SF) → Xw D 17 (cellM T q) q T ExM A s S H locs → lv_has ls 5 [(0, .ref (q 0)), (2, .int x2), (3, .int x3), (4, .int x4)] → XG p l e ({ frames := 2, cells := 0, slots := 0, locals := 47 }) s m args below meth c D 17 (cellM T q) q T A SF (some (.int r)) H locs 61 ls [] := by
  intro n
  induction n with
  | zero =>
    intro x2 x3 x4 S H locs ls hf hw hl
    rw [jMod_days_h61] at hf
    cases hf
  | succ n ih =>
    intro x2 x3 x4 S H locs ls hf hw hl
    rw [jMod_days_h61] at hf
    exact jMod_days_b61_ok B K46 hK46 (jMod_days_h61 K46 n) ih x2 x3 x4 S hf hw hl

set_option maxHeartbeats 4000000 in
theorem jMod_days_b46_ok (B : XB p s m args meth c A cX7_days 5 (some .int) RX7) {SF : St} {r : Int32} (K46 : Int32 → Int32 → St → Option (Int32 × St)) (hK46 : ∀ (x2 : Int32) (x3 : Int32) (S : St) (H : Heap) (locs : List Loc) (ls : Array Slot), K46 x2 x3 S = some (r, SF) → Xw D 17 (cellM T q) q T ExM A s S H locs → lv_has ls 5 [(0, .ref (q 0)), (2, .int x2), (3, .int x3)] → XG p l e ({ frames := 2, cells := 0, slots := 0, locals := 47 }) s m args below meth c D 17 (cellM T q) q T A SF (some (.int r)) H locs 46 ls [])  (x2 : Int32) (x3 : Int32) (S : St) {H : Heap} {locs : List Loc} {ls : Array Slot} (hf : jMod_days_b46 K46 x2 x3 S = some (r, SF)) (hw : Xw D 17 (cellM T q) q T ExM A s S H locs) (hl : lv_has ls 5 [(0, .ref (q 0)), (2, .int x2), (3, .int x3)]) : XG p l e ({ frames := 2, cells := 0, slots := 0, locals := 47 }) s m args below meth c D 17 (cellM T q) q T A SF (some (.int r)) H locs 46 ls [] := by
  unfold jMod_days_b46 at hf
  obtain ⟨hx, hb, hr, hml, hown, hts, hlk, hA⟩ := id B
  refine lv_iload_n hx hb dX7_days_46 rfl (lv_at hl 2 rfl) ?_
  refine lv_bipush (v := (-9)) hx hb dX7_days_47 (by decide) ?_
  refine lv_icmp_eq (tgt := 105) hx hb dX7_days_49 (by decide) (fun hc => ?_) (fun hc => ?_)
  · have hf := x_pos hc hf
    refine lv_iload_n hx hb dX7_days_105 rfl (lv_at hl 1 rfl) ?_
    exact x_iret B hw hf dX7_days_106
  · have hf := x_neg hc hf
    refine lv_iload_n hx hb dX7_days_52 rfl (lv_at hl 1 rfl) ?_
    refine lv_bipush (v := 30) hx hb dX7_days_53 (by decide) ?_
    refine lv_icmp_ge (tgt := 105) hx hb dX7_days_55 (by decide) (fun hc => ?_) (fun hc => ?_)
    · have hf := x_pos hc hf
      refine lv_iload_n hx hb dX7_days_105 rfl (lv_at hl 1 rfl) ?_
      exact x_iret B hw hf dX7_days_106
    · have hf := x_neg hc hf
      refine lv_iconst (v := 0) hx hb dX7_days_58 (by decide) ?_
      refine lv_istore (lv' := [(4, .int 0), (0, .ref (q 0)), (2, .int x2), (3, .int x3)]) hx hb dX7_days_59 hl (by decide) rfl (fun ls hl => ?_)
      exact jMod_days_h61_ok B K46 hK46 FU x2 x3 0 S _ _ _ hf hw (lv_sub hl [1, 2, 3, 0] rfl)

theorem jMod_days_h46_ok (B : XB p s m args meth c A cX7_days 5 (some .int) RX7) {SF : St} {r : Int32} : ∀ (n : Nat) (x2 : Int32) (x3 : Int32) (S : St) (H : Heap) (locs : List Loc) (ls : Array Slot), jMod_days_h46 n x2 x3 S = some (r, SF) → Xw D 17 (cellM T q) q T ExM A s S H locs → lv_has ls 5 [(0, .ref (q 0)), (2, .int x2), (3, .int x3)] → XG p l e ({ frames := 2, cells := 0, slots := 0, locals := 47 }) s m args below meth c D 17 (cellM T q) q T A SF (some (.int r)) H locs 46 ls [] := by
  intro n
  induction n with
  | zero =>
    intro x2 x3 S H locs ls hf hw hl
    rw [jMod_days_h46] at hf
    cases hf
  | succ n ih =>
    intro x2 x3 S H locs ls hf hw hl
    rw [jMod_days_h46] at hf
    exact jMod_days_b46_ok B (jMod_days_h46 n) ih x2 x3 S hf hw hl

set_option maxHeartbeats 4000000 in
theorem jMod_days_b12_ok (B : XB p s m args meth c A cX7_days 5 (some .int) RX7) {SF : St} {r : Int32} (K12 : Int32 → Int32 → St → Option (Int32 × St)) (hK12 : ∀ (x1 : Int32) (x2 : Int32) (S : St) (H : Heap) (locs : List Loc) (ls : Array Slot), K12 x1 x2 S = some (r, SF) → Xw D 17 (cellM T q) q T ExM A s S H locs → lv_has ls 5 [(0, .ref (q 0)), (1, .int x1), (2, .int x2)] → XG p l e ({ frames := 2, cells := 0, slots := 0, locals := 47 }) s m args below meth c D 17 (cellM T q) q T A SF (some (.int r)) H locs 12 ls [])  (x1 : Int32) (x2 : Int32) (S : St) {H : Heap} {locs : List Loc} {ls : Array Slot} (hf : jMod_days_b12 K12 x1 x2 S = some (r, SF)) (hw : Xw D 17 (cellM T q) q T ExM A s S H locs) (hl : lv_has ls 5 [(0, .ref (q 0)), (1, .int x1), (2, .int x2)]) : XG p l e ({ frames := 2, cells := 0, slots := 0, locals := 47 }) s m args below meth c D 17 (cellM T q) q T A SF (some (.int r)) H locs 12 ls [] := by
  unfold jMod_days_b12 at hf
  obtain ⟨hx, hb, hr, hml, hown, hts, hlk, hA⟩ := id B
  refine lv_iload_n hx hb dX7_days_12 rfl (lv_at hl 2 rfl) ?_
  refine lv_iconst (v := 5) hx hb dX7_days_13 (by decide) ?_
  refine lv_icmp_ge (tgt := 39) hx hb dX7_days_14 (by decide) (fun hc => ?_) (fun hc => ?_)
  · have hf := x_pos hc hf
    refine lv_iconst (v := 0) hx hb dX7_days_39 (by decide) ?_
    refine lv_istore_n (lv' := [(2, .int 0), (0, .ref (q 0)), (1, .int x1)]) hx hb dX7_days_40 rfl hl (by decide) rfl (fun ls hl => ?_)
    refine lv_aload_n hx hb dX7_days_41 rfl (lv_at hl 1 rfl) ?_
    obtain ⟨v4, S3, hc, hf⟩ := x_bd_some hf
    refine x_callV B ExM_ok hw 0 (by decide) rfl rfl (As := []) (rest := []) (st1 := [.int v4]) (jMod_nextSupper_ok hc) u925 u927 u34 u45 u928 hdX7_nextSupper rfl ⟨Nat.le_of_ble_eq_true rfl, Nat.le_of_ble_eq_true rfl⟩ ⟨rfl, rfl⟩ hl.1 (Nat.le_of_ble_eq_true rfl) dX7_days_42 (fun H locs hw => ?_) rfl rfl
    refine lv_istore_n (lv' := [(3, .int v4), (2, .int 0), (0, .ref (q 0)), (1, .int x1)]) hx hb dX7_days_45 rfl hl (by decide) rfl (fun ls hl => ?_)
    exact jMod_days_h46_ok B FU 0 v4 S3 _ _ _ hf hw (lv_sub hl [2, 1, 0] rfl)
  · have hf := x_neg hc hf
    refine lv_aload_n hx hb dX7_days_17 rfl (lv_at hl 0 rfl) ?_
    refine x_get B hw (Tb := TX7) inX7 0 (by decide) rfl rfl 23 (by decide) u713 (fun _ h => h) rfl dX7_days_18 ?_
    refine lv_iload_n hx hb dX7_days_21 rfl (lv_at hl 2 rfl) ?_
    refine lv_aload_n hx hb dX7_days_22 rfl (lv_at hl 0 rfl) ?_
    refine x_get B hw (Tb := TX7) inX7 0 (by decide) rfl rfl 16 (by decide) u706 (fun _ h => h) rfl dX7_days_23 ?_
    refine lv_iconst (v := 5) hx hb dX7_days_26 (by decide) ?_
    refine lv_iload_n hx hb dX7_days_27 rfl (lv_at hl 1 rfl) ?_
    refine lv_imul hx hb dX7_days_28 ?_
    refine lv_iload_n hx hb dX7_days_29 rfl (lv_at hl 2 rfl) ?_
    refine lv_iadd hx hb dX7_days_30 ?_
    refine x_iald B hw 9 (by decide) rfl dX7_days_31 hf (fun v10 hf => ?_)
    refine x_iast B hw 16 (by decide) (fun _ _ => rfl) dX7_days_32 hf (fun S11 H locs hw hf => ?_)
    refine lv_iinc (v := x2 + 1) (lv' := [(2, .int (x2 + 1)), (0, .ref (q 0)), (1, .int x1)]) hx hb dX7_days_33 hl (k := 2) rfl xi_1 (by decide) rfl (fun ls hl => ?_)
    refine lv_goto (tgt := 12) hx hb dX7_days_36 (by decide) ?_
    exact hK12 x1 (x2 + 1) S11 _ _ _ hf hw (lv_sub hl [1, 2, 0] rfl)

theorem jMod_days_h12_ok (B : XB p s m args meth c A cX7_days 5 (some .int) RX7) {SF : St} {r : Int32} : ∀ (n : Nat) (x1 : Int32) (x2 : Int32) (S : St) (H : Heap) (locs : List Loc) (ls : Array Slot), jMod_days_h12 n x1 x2 S = some (r, SF) → Xw D 17 (cellM T q) q T ExM A s S H locs → lv_has ls 5 [(0, .ref (q 0)), (1, .int x1), (2, .int x2)] → XG p l e ({ frames := 2, cells := 0, slots := 0, locals := 47 }) s m args below meth c D 17 (cellM T q) q T A SF (some (.int r)) H locs 12 ls [] := by
  intro n
  induction n with
  | zero =>
    intro x1 x2 S H locs ls hf hw hl
    rw [jMod_days_h12] at hf
    cases hf
  | succ n ih =>
    intro x1 x2 S H locs ls hf hw hl
    rw [jMod_days_h12] at hf
    exact jMod_days_b12_ok B (jMod_days_h12 n) ih x1 x2 S hf hw hl

set_option maxHeartbeats 4000000 in
theorem jMod_days_b0_ok (B : XB p s m args meth c A cX7_days 5 (some .int) RX7) {SF : St} {r : Int32}  (x1 : Int32) (S : St) {H : Heap} {locs : List Loc} {ls : Array Slot} (hf : jMod_days x1 S = some (r, SF)) (hw : Xw D 17 (cellM T q) q T ExM A s S H locs) (hl : lv_has ls 5 [(0, .ref (q 0)), (1, .int x1)]) : XG p l e ({ frames := 2, cells := 0, slots := 0, locals := 47 }) s m args below meth c D 17 (cellM T q) q T A SF (some (.int r)) H locs 0 ls [] := by
  unfold jMod_days at hf
  obtain ⟨hx, hb, hr, hml, hown, hts, hlk, hA⟩ := id B
  refine lv_aload_n hx hb dX7_days_0 rfl (lv_at hl 0 rfl) ?_
  refine lv_iload_n hx hb dX7_days_1 rfl (lv_at hl 1 rfl) ?_
  obtain ⟨v2, S1, hc, hf⟩ := x_bd_some hf
  refine x_callV B ExM_ok hw 0 (by decide) rfl rfl (As := [.int x1]) (rest := []) (st1 := [.int v2]) (jMod_isHouse_ok hc) u807 u809 u22 u45 u810 hdX7_isHouse rfl ⟨Nat.le_of_ble_eq_true rfl, Nat.le_of_ble_eq_true rfl⟩ ⟨rfl, rfl⟩ hl.1 (Nat.le_of_ble_eq_true rfl) dX7_days_2 (fun H locs hw => ?_) rfl rfl
  refine lv_if_ne (tgt := 10) hx hb dX7_days_5 (by decide) (fun hc => ?_) (fun hc => ?_)
  · have hf := x_neg hc hf
    refine lv_iconst (v := 0) hx hb dX7_days_10 (by decide) ?_
    refine lv_istore_n (lv' := [(2, .int 0), (0, .ref (q 0)), (1, .int x1)]) hx hb dX7_days_11 rfl hl (by decide) rfl (fun ls hl => ?_)
    exact jMod_days_h12_ok B FU x1 0 S1 _ _ _ hf hw (lv_sub hl [1, 2, 0] rfl)
  · have hf := x_pos hc hf
    refine lv_iconst (v := (-1)) hx hb dX7_days_8 (by decide) ?_
    exact x_iret B hw hf dX7_days_9

set_option maxHeartbeats 4000000 in
theorem jMod_days_ok {x1 : Int32} {S SF : St} {r : Int32} (hf : jMod_days x1 S = some (r, SF)) : XMet l D 17 (cellM T q) q T ExM yX7_days cX7_days 5 (some .int) ({ frames := 2, cells := 0, slots := 0, locals := 47 }) [.ref (q 0), .int x1] S (some (.int r)) SF := by
  refine x_enter (own := RX7) (by decide +kernel) rfl (Nat.le_of_ble_eq_true rfl) (fun p e s m below meth c A B ls hw hl0 => ?_)
  have hl : lv_has ls 5 [(0, .ref (q 0)), (1, .int x1)] := hl0
  exact jMod_days_b0_ok B x1 S hf hw hl

set_option maxHeartbeats 4000000 in
theorem jMod_saidBy_b77_ok (B : XB p s m args meth c A cX7_saidBy 7 (some .int) RX7) {SF : St} {r : Int32} (K6 : Int32 → Int32 → Int32 → Int32 → Int32 → St → Option (Int32 × St)) (hK6 : ∀ (x1 : Int32) (x2 : Int32) (x3 : Int32) (x4 : Int32) (x5 : Int32) (S : St) (H : Heap) (locs : List Loc) (ls : Array Slot), K6 x1 x2 x3 x4 x5 S = some (r, SF) → Xw D 17 (cellM T q) q T ExM A s S H locs → lv_has ls 7 [(0, .ref (q 0)), (1, .int x1), (2, .int x2), (3, .int x3), (4, .int x4), (5, .int x5)] → XG p l e ({ frames := 1, cells := 0, slots := 0, locals := 22 }) s m args below meth c D 17 (cellM T q) q T A SF (some (.int r)) H locs 6 ls []) (K77 : Int32 → Int32 → Int32 → Int32 → Int32 → Int32 → St → Option (Int32 × St)) (hK77 : ∀ (x1 : Int32) (x2 : Int32) (x3 : Int32) (x4 : Int32) (x5 : Int32) (x6 : Int32) (S : St) (H : Heap) (locs : List Loc) (ls : Array Slot), K77 x1 x2 x3 x4 x5 x6 S = some (r, SF) → Xw D 17 (cellM T q) q T ExM A s S H locs → lv_has ls 7 [(0, .ref (q 0)), (1, .int x1), (2, .int x2), (3, .int x3), (4, .int x4), (5, .int x5), (6, .int x6)] → XG p l e ({ frames := 1, cells := 0, slots := 0, locals := 22 }) s m args below meth c D 17 (cellM T q) q T A SF (some (.int r)) H locs 77 ls [])  (x1 : Int32) (x2 : Int32) (x3 : Int32) (x4 : Int32) (x5 : Int32) (x6 : Int32) (S : St) {H : Heap} {locs : List Loc} {ls : Array Slot} (hf : jMod_saidBy_b77 K6 K77 x1 x2 x3 x4 x5 x6 S = some (r, SF)) (hw : Xw D 17 (cellM T q) q T ExM A s S H locs) (hl : lv_has ls 7 [(0, .ref (q 0)), (1, .int x1), (2, .int x2), (3, .int x3), (4, .int x4), (5, .int x5), (6, .int x6)]) : XG p l e ({ frames := 1, cells := 0, slots := 0, locals := 22 }) s m args below meth c D 17 (cellM T q) q T A SF (some (.int r)) H locs 77 ls [] := by
  unfold jMod_saidBy_b77 at hf
  obtain ⟨hx, hb, hr, hml, hown, hts, hlk, hA⟩ := id B
  refine lv_iload hx hb dX7_saidBy_77 (lv_at hl 6 rfl) ?_
  refine lv_iload hx hb dX7_saidBy_79 (lv_at hl 5 rfl) ?_
  refine lv_icmp_ge (tgt := 125) hx hb dX7_saidBy_81 (by decide) (fun hc => ?_) (fun hc => ?_)
  · have hf := x_pos hc hf
    refine lv_iinc (v := x5 + 1) (lv' := [(5, .int (x5 + 1)), (0, .ref (q 0)), (1, .int x1), (2, .int x2), (3, .int x3), (4, .int x4), (6, .int x6)]) hx hb dX7_saidBy_125 hl (k := 5) rfl xi_1 (by decide) rfl (fun ls hl => ?_)
    refine lv_goto (tgt := 6) hx hb dX7_saidBy_128 (by decide) ?_
    exact hK6 x1 x2 x3 x4 (x5 + 1) S _ _ _ hf hw (lv_sub hl [1, 2, 3, 4, 5, 0] rfl)
  · have hf := x_neg hc hf
    refine lv_iload_n hx hb dX7_saidBy_84 rfl (lv_at hl 1 rfl) ?_
    refine lv_iload hx hb dX7_saidBy_85 (lv_at hl 6 rfl) ?_
    refine lv_ishr hx hb dX7_saidBy_87 ?_
    refine lv_iconst (v := 1) hx hb dX7_saidBy_88 (by decide) ?_
    refine lv_iand hx hb dX7_saidBy_89 ?_
    refine lv_iconst (v := 1) hx hb dX7_saidBy_90 (by decide) ?_
    refine lv_icmp_ne (tgt := 119) hx hb dX7_saidBy_91 (by decide) (fun hc => ?_) (fun hc => ?_)
    · have hf := x_neg hc hf
      refine lv_iinc (v := x6 + 1) (lv' := [(6, .int (x6 + 1)), (0, .ref (q 0)), (1, .int x1), (2, .int x2), (3, .int x3), (4, .int x4), (5, .int x5)]) hx hb dX7_saidBy_119 hl (k := 6) rfl xi_1 (by decide) rfl (fun ls hl => ?_)
      refine lv_goto (tgt := 77) hx hb dX7_saidBy_122 (by decide) ?_
      exact hK77 x1 x2 x3 x4 x5 (x6 + 1) S _ _ _ hf hw (lv_sub hl [1, 2, 3, 4, 5, 6, 0] rfl)
    · have hf := x_pos hc hf
      refine lv_aload_n hx hb dX7_saidBy_94 rfl (lv_at hl 0 rfl) ?_
      refine x_get B hw (Tb := TX7) inX7 0 (by decide) rfl rfl 7 (by decide) u697 (fun _ h => h) rfl dX7_saidBy_95 ?_
      refine lv_iload hx hb dX7_saidBy_98 (lv_at hl 5 rfl) ?_
      refine x_iald B hw 6 (by decide) rfl dX7_saidBy_100 hf (fun v6 hf => ?_)
      refine lv_aload_n hx hb dX7_saidBy_101 rfl (lv_at hl 0 rfl) ?_
      refine x_get B hw (Tb := TX7) inX7 0 (by decide) rfl rfl 7 (by decide) u697 (fun _ h => h) rfl dX7_saidBy_102 ?_
      refine lv_iload hx hb dX7_saidBy_105 (lv_at hl 6 rfl) ?_
      refine x_iald B hw 6 (by decide) rfl dX7_saidBy_107 hf (fun v7 hf => ?_)
      refine lv_ixor hx hb dX7_saidBy_108 ?_
      obtain ⟨v9, S8, hc, hf⟩ := x_bd_some hf
      refine x_callS B ExM_ok hw (As := [.int (v6 ^^^ v7)]) (rest := []) (st1 := [.int v9]) (jMod_bitsIn_ok hc) u882 u883 u45 u884 hdX7_bitsIn rfl ⟨Nat.le_of_ble_eq_true rfl, Nat.le_of_ble_eq_true rfl⟩ ⟨rfl, rfl⟩ hl.1 (Nat.le_of_ble_eq_true rfl) dX7_saidBy_109 (fun H locs hw => ?_) rfl rfl
      refine lv_iload_n hx hb dX7_saidBy_112 rfl (lv_at hl 3 rfl) ?_
      refine lv_icmp_ge (tgt := 119) hx hb dX7_saidBy_113 (by decide) (fun hc => ?_) (fun hc => ?_)
      · have hf := x_pos hc hf
        refine lv_iinc (v := x6 + 1) (lv' := [(6, .int (x6 + 1)), (0, .ref (q 0)), (1, .int x1), (2, .int x2), (3, .int x3), (4, .int x4), (5, .int x5)]) hx hb dX7_saidBy_119 hl (k := 6) rfl xi_1 (by decide) rfl (fun ls hl => ?_)
        refine lv_goto (tgt := 77) hx hb dX7_saidBy_122 (by decide) ?_
        exact hK77 x1 x2 x3 x4 x5 (x6 + 1) S8 _ _ _ hf hw (lv_sub hl [1, 2, 3, 4, 5, 6, 0] rfl)
      · have hf := x_neg hc hf
        refine lv_bipush (v := (-9)) hx hb dX7_saidBy_116 (by decide) ?_
        exact x_iret B hw hf dX7_saidBy_118

theorem jMod_saidBy_h77_ok (B : XB p s m args meth c A cX7_saidBy 7 (some .int) RX7) {SF : St} {r : Int32} (K6 : Int32 → Int32 → Int32 → Int32 → Int32 → St → Option (Int32 × St)) (hK6 : ∀ (x1 : Int32) (x2 : Int32) (x3 : Int32) (x4 : Int32) (x5 : Int32) (S : St) (H : Heap) (locs : List Loc) (ls : Array Slot), K6 x1 x2 x3 x4 x5 S = some (r, SF) → Xw D 17 (cellM T q) q T ExM A s S H locs → lv_has ls 7 [(0, .ref (q 0)), (1, .int x1), (2, .int x2), (3, .int x3), (4, .int x4), (5, .int x5)] → XG p l e ({ frames := 1, cells := 0, slots := 0, locals := 22 }) s m args below meth c D 17 (cellM T q) q T A SF (some (.int r)) H locs 6 ls []) : ∀ (n : Nat) (x1 : Int32) (x2 : Int32) (x3 : Int32) (x4 : Int32) (x5 : Int32) (x6 : Int32) (S : St) (H : Heap) (locs : List Loc) (ls : Array Slot), jMod_saidBy_h77 K6 n x1 x2 x3 x4 x5 x6 S = some (r, SF) → Xw D 17 (cellM T q) q T ExM A s S H locs → lv_has ls 7 [(0, .ref (q 0)), (1, .int x1), (2, .int x2), (3, .int x3), (4, .int x4), (5, .int x5), (6, .int x6)] → XG p l e ({ frames := 1, cells := 0, slots := 0, locals := 22 }) s m args below meth c D 17 (cellM T q) q T A SF (some (.int r)) H locs 77 ls [] := by
  intro n
  induction n with
  | zero =>
    intro x1 x2 x3 x4 x5 x6 S H locs ls hf hw hl
    rw [jMod_saidBy_h77] at hf
    cases hf
  | succ n ih =>
    intro x1 x2 x3 x4 x5 x6 S H locs ls hf hw hl
    rw [jMod_saidBy_h77] at hf
    exact jMod_saidBy_b77_ok B K6 hK6 (jMod_saidBy_h77 K6 n) ih x1 x2 x3 x4 x5 x6 S hf hw hl

set_option maxHeartbeats 4000000 in
theorem jMod_saidBy_b6_ok (B : XB p s m args meth c A cX7_saidBy 7 (some .int) RX7) {SF : St} {r : Int32} (K6 : Int32 → Int32 → Int32 → Int32 → Int32 → St → Option (Int32 × St)) (hK6 : ∀ (x1 : Int32) (x2 : Int32) (x3 : Int32) (x4 : Int32) (x5 : Int32) (S : St) (H : Heap) (locs : List Loc) (ls : Array Slot), K6 x1 x2 x3 x4 x5 S = some (r, SF) → Xw D 17 (cellM T q) q T ExM A s S H locs → lv_has ls 7 [(0, .ref (q 0)), (1, .int x1), (2, .int x2), (3, .int x3), (4, .int x4), (5, .int x5)] → XG p l e ({ frames := 1, cells := 0, slots := 0, locals := 22 }) s m args below meth c D 17 (cellM T q) q T A SF (some (.int r)) H locs 6 ls [])  (x1 : Int32) (x2 : Int32) (x3 : Int32) (x4 : Int32) (x5 : Int32) (S : St) {H : Heap} {locs : List Loc} {ls : Array Slot} (hf : jMod_saidBy_b6 K6 x1 x2 x3 x4 x5 S = some (r, SF)) (hw : Xw D 17 (cellM T q) q T ExM A s S H locs) (hl : lv_has ls 7 [(0, .ref (q 0)), (1, .int x1), (2, .int x2), (3, .int x3), (4, .int x4), (5, .int x5)]) : XG p l e ({ frames := 1, cells := 0, slots := 0, locals := 22 }) s m args below meth c D 17 (cellM T q) q T A SF (some (.int r)) H locs 6 ls [] := by
  unfold jMod_saidBy_b6 at hf
  obtain ⟨hx, hb, hr, hml, hown, hts, hlk, hA⟩ := id B
  refine lv_iload hx hb dX7_saidBy_6 (lv_at hl 5 rfl) ?_
  refine lv_aload_n hx hb dX7_saidBy_8 rfl (lv_at hl 0 rfl) ?_
  refine x_get B hw (Tb := TX7) inX7 0 (by decide) rfl rfl 5 (by decide) u695 (fun _ h => h) rfl dX7_saidBy_9 ?_
  refine lv_iconst (v := 0) hx hb dX7_saidBy_12 (by decide) ?_
  refine x_iald B hw 4 (by decide) rfl dX7_saidBy_13 hf (fun v1 hf => ?_)
  refine lv_icmp_ge (tgt := 131) hx hb dX7_saidBy_14 (by decide) (fun hc => ?_) (fun hc => ?_)
  · have hf := x_pos hc hf
    refine lv_iload hx hb dX7_saidBy_131 (lv_at hl 4 rfl) ?_
    exact x_iret B hw hf dX7_saidBy_133
  · have hf := x_neg hc hf
    refine lv_iload_n hx hb dX7_saidBy_17 rfl (lv_at hl 1 rfl) ?_
    refine lv_iload hx hb dX7_saidBy_18 (lv_at hl 5 rfl) ?_
    refine lv_ishr hx hb dX7_saidBy_20 ?_
    refine lv_iconst (v := 1) hx hb dX7_saidBy_21 (by decide) ?_
    refine lv_iand hx hb dX7_saidBy_22 ?_
    refine lv_iconst (v := 1) hx hb dX7_saidBy_23 (by decide) ?_
    refine lv_icmp_ne (tgt := 125) hx hb dX7_saidBy_24 (by decide) (fun hc => ?_) (fun hc => ?_)
    · have hf := x_neg hc hf
      refine lv_iinc (v := x5 + 1) (lv' := [(5, .int (x5 + 1)), (0, .ref (q 0)), (1, .int x1), (2, .int x2), (3, .int x3), (4, .int x4)]) hx hb dX7_saidBy_125 hl (k := 5) rfl xi_1 (by decide) rfl (fun ls hl => ?_)
      refine lv_goto (tgt := 6) hx hb dX7_saidBy_128 (by decide) ?_
      exact hK6 x1 x2 x3 x4 (x5 + 1) S _ _ _ hf hw (lv_sub hl [1, 2, 3, 4, 5, 0] rfl)
    · have hf := x_pos hc hf
      refine lv_iload_n hx hb dX7_saidBy_27 rfl (lv_at hl 2 rfl) ?_
      refine lv_aload_n hx hb dX7_saidBy_28 rfl (lv_at hl 0 rfl) ?_
      refine x_get B hw (Tb := TX7) inX7 0 (by decide) rfl rfl 8 (by decide) u698 (fun _ h => h) rfl dX7_saidBy_29 ?_
      refine lv_iload hx hb dX7_saidBy_32 (lv_at hl 5 rfl) ?_
      refine x_iald B hw 7 (by decide) rfl dX7_saidBy_34 hf (fun v2 hf => ?_)
      refine lv_ishr hx hb dX7_saidBy_35 ?_
      refine lv_iconst (v := 1) hx hb dX7_saidBy_36 (by decide) ?_
      refine lv_iand hx hb dX7_saidBy_37 ?_
      refine lv_if_eq (tgt := 57) hx hb dX7_saidBy_38 (by decide) (fun hc => ?_) (fun hc => ?_)
      · have hf := x_pos hc hf
        refine lv_bipush (v := (-9)) hx hb dX7_saidBy_57 (by decide) ?_
        exact x_iret B hw hf dX7_saidBy_59
      · have hf := x_neg hc hf
        refine lv_iload hx hb dX7_saidBy_41 (lv_at hl 4 rfl) ?_
        refine lv_aload_n hx hb dX7_saidBy_43 rfl (lv_at hl 0 rfl) ?_
        refine x_get B hw (Tb := TX7) inX7 0 (by decide) rfl rfl 8 (by decide) u698 (fun _ h => h) rfl dX7_saidBy_44 ?_
        refine lv_iload hx hb dX7_saidBy_47 (lv_at hl 5 rfl) ?_
        refine x_iald B hw 7 (by decide) rfl dX7_saidBy_49 hf (fun v3 hf => ?_)
        refine lv_ishr hx hb dX7_saidBy_50 ?_
        refine lv_iconst (v := 1) hx hb dX7_saidBy_51 (by decide) ?_
        refine lv_iand hx hb dX7_saidBy_52 ?_
        refine lv_iconst (v := 1) hx hb dX7_saidBy_53 (by decide) ?_
        refine lv_icmp_ne (tgt := 60) hx hb dX7_saidBy_54 (by decide) (fun hc => ?_) (fun hc => ?_)
        · have hf := x_neg hc hf
          refine lv_iload hx hb dX7_saidBy_60 (lv_at hl 4 rfl) ?_
          refine lv_iconst (v := 1) hx hb dX7_saidBy_62 (by decide) ?_
          refine lv_aload_n hx hb dX7_saidBy_63 rfl (lv_at hl 0 rfl) ?_
          refine x_get B hw (Tb := TX7) inX7 0 (by decide) rfl rfl 8 (by decide) u698 (fun _ h => h) rfl dX7_saidBy_64 ?_
          refine lv_iload hx hb dX7_saidBy_67 (lv_at hl 5 rfl) ?_
          refine x_iald B hw 7 (by decide) rfl dX7_saidBy_69 hf (fun v4 hf => ?_)
          refine lv_ishl hx hb dX7_saidBy_70 ?_
          refine lv_ior hx hb dX7_saidBy_71 ?_
          refine x_leti hf (fun v5 hf => ?_)
          refine lv_istore (lv' := [(4, .int v5), (0, .ref (q 0)), (1, .int x1), (2, .int x2), (3, .int x3), (5, .int x5)]) hx hb dX7_saidBy_72 hl (by decide) rfl (fun ls hl => ?_)
          refine lv_iconst (v := 0) hx hb dX7_saidBy_74 (by decide) ?_
          refine lv_istore (lv' := [(6, .int 0), (4, .int v5), (0, .ref (q 0)), (1, .int x1), (2, .int x2), (3, .int x3), (5, .int x5)]) hx hb dX7_saidBy_75 hl (by decide) rfl (fun ls hl => ?_)
          exact jMod_saidBy_h77_ok B K6 hK6 FU x1 x2 x3 v5 x5 0 S _ _ _ hf hw (lv_sub hl [2, 3, 4, 5, 1, 6, 0] rfl)
        · have hf := x_pos hc hf
          refine lv_bipush (v := (-9)) hx hb dX7_saidBy_57 (by decide) ?_
          exact x_iret B hw hf dX7_saidBy_59

theorem jMod_saidBy_h6_ok (B : XB p s m args meth c A cX7_saidBy 7 (some .int) RX7) {SF : St} {r : Int32} : ∀ (n : Nat) (x1 : Int32) (x2 : Int32) (x3 : Int32) (x4 : Int32) (x5 : Int32) (S : St) (H : Heap) (locs : List Loc) (ls : Array Slot), jMod_saidBy_h6 n x1 x2 x3 x4 x5 S = some (r, SF) → Xw D 17 (cellM T q) q T ExM A s S H locs → lv_has ls 7 [(0, .ref (q 0)), (1, .int x1), (2, .int x2), (3, .int x3), (4, .int x4), (5, .int x5)] → XG p l e ({ frames := 1, cells := 0, slots := 0, locals := 22 }) s m args below meth c D 17 (cellM T q) q T A SF (some (.int r)) H locs 6 ls [] := by
  intro n
  induction n with
  | zero =>
    intro x1 x2 x3 x4 x5 S H locs ls hf hw hl
    rw [jMod_saidBy_h6] at hf
    cases hf
  | succ n ih =>
    intro x1 x2 x3 x4 x5 S H locs ls hf hw hl
    rw [jMod_saidBy_h6] at hf
    exact jMod_saidBy_b6_ok B (jMod_saidBy_h6 n) ih x1 x2 x3 x4 x5 S hf hw hl

set_option maxHeartbeats 4000000 in
theorem jMod_saidBy_b0_ok (B : XB p s m args meth c A cX7_saidBy 7 (some .int) RX7) {SF : St} {r : Int32}  (x1 : Int32) (x2 : Int32) (x3 : Int32) (S : St) {H : Heap} {locs : List Loc} {ls : Array Slot} (hf : jMod_saidBy x1 x2 x3 S = some (r, SF)) (hw : Xw D 17 (cellM T q) q T ExM A s S H locs) (hl : lv_has ls 7 [(0, .ref (q 0)), (1, .int x1), (2, .int x2), (3, .int x3)]) : XG p l e ({ frames := 1, cells := 0, slots := 0, locals := 22 }) s m args below meth c D 17 (cellM T q) q T A SF (some (.int r)) H locs 0 ls [] := by
  unfold jMod_saidBy at hf
  obtain ⟨hx, hb, hr, hml, hown, hts, hlk, hA⟩ := id B
  refine lv_iconst (v := 0) hx hb dX7_saidBy_0 (by decide) ?_
  refine lv_istore (lv' := [(4, .int 0), (0, .ref (q 0)), (1, .int x1), (2, .int x2), (3, .int x3)]) hx hb dX7_saidBy_1 hl (by decide) rfl (fun ls hl => ?_)
  refine lv_iconst (v := 0) hx hb dX7_saidBy_3 (by decide) ?_
  refine lv_istore (lv' := [(5, .int 0), (4, .int 0), (0, .ref (q 0)), (1, .int x1), (2, .int x2), (3, .int x3)]) hx hb dX7_saidBy_4 hl (by decide) rfl (fun ls hl => ?_)
  exact jMod_saidBy_h6_ok B FU x1 x2 x3 0 0 S _ _ _ hf hw (lv_sub hl [2, 3, 4, 5, 1, 0] rfl)

set_option maxHeartbeats 4000000 in
theorem jMod_saidBy_ok {x1 : Int32} {x2 : Int32} {x3 : Int32} {S SF : St} {r : Int32} (hf : jMod_saidBy x1 x2 x3 S = some (r, SF)) : XMet l D 17 (cellM T q) q T ExM yX7_saidBy cX7_saidBy 7 (some .int) ({ frames := 1, cells := 0, slots := 0, locals := 22 }) [.ref (q 0), .int x1, .int x2, .int x3] S (some (.int r)) SF := by
  refine x_enter (own := RX7) (by decide +kernel) rfl (Nat.le_of_ble_eq_true rfl) (fun p e s m below meth c A B ls hw hl0 => ?_)
  have hl : lv_has ls 7 [(0, .ref (q 0)), (1, .int x1), (2, .int x2), (3, .int x3)] := hl0
  exact jMod_saidBy_b0_ok B x1 x2 x3 S hf hw hl
end
