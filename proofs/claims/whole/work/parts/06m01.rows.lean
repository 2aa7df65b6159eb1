section
variable {p : Program} {l : Launch} {e : Env} {s : State} {m : MethodId} {args : Array Value} {below : List Frame} {meth : Method} {c : Code} {D : va_G} {q aK aV : Nat → Nat} {T : Nat → ClassId} {A : Nat → Prop}
set_option maxHeartbeats 4000000 in
theorem jMod_valley_b171_ok (B : XB p s m args meth c A cX7_valley 3 (some .int) RX7) {SF : St} {r : Int32} (K171 : Int32 → Int32 → St → Option (Int32 × St)) (hK171 : ∀ (x1 : Int32) (x2 : Int32) (S : St) (H : Heap) (locs : List Loc) (ls : Array Slot), K171 x1 x2 S = some (r, SF) → Xw D 17 (cellM T q) q T ExM A s S H locs → lv_has ls 3 [(0, .ref (q 0)), (1, .int x1), (2, .int x2)] → XG p l e ({ frames := 5, cells := 0, slots := 0, locals := 110 }) s m args below meth c D 17 (cellM T q) q T A SF (some (.int r)) H locs 171 ls [])  (x1 : Int32) (x2 : Int32) (S : St) {H : Heap} {locs : List Loc} {ls : Array Slot} (hf : jMod_valley_b171 K171 x1 x2 S = some (r, SF)) (hw : Xw D 17 (cellM T q) q T ExM A s S H locs) (hl : lv_has ls 3 [(0, .ref (q 0)), (1, .int x1), (2, .int x2)]) : XG p l e ({ frames := 5, cells := 0, slots := 0, locals := 110 }) s m args below meth c D 17 (cellM T q) q T A SF (some (.int r)) H locs 171 ls [] := by
  unfold jMod_valley_b171 at hf
  obtain ⟨hx, hb, hr, hml, hown, hts, hlk, hA⟩ := id B
  refine lv_iload_n hx hb dX7_valley_171 rfl (lv_at hl 2 rfl) ?_
  refine lv_bipush (v := 8) hx hb dX7_valley_172 (by decide) ?_
  refine lv_icmp_ge (tgt := 213) hx hb dX7_valley_174 (by decide) (fun hc => ?_) (fun hc => ?_)
  · have hf := x_pos hc hf
    refine lv_aload_n hx hb dX7_valley_213 rfl (lv_at hl 0 rfl) ?_
    refine x_get B hw (Tb := TX7) inX7 0 (by decide) rfl rfl 16 (by decide) u706 (fun _ h => h) rfl dX7_valley_214 ?_
    refine lv_bipush (v := 30) hx hb dX7_valley_217 (by decide) ?_
    refine lv_aload_n hx hb dX7_valley_219 rfl (lv_at hl 0 rfl) ?_
    refine x_get B hw (Tb := TX7) inX7 0 (by decide) rfl rfl 9 (by decide) u699 (fun _ h => h) rfl dX7_valley_220 ?_
    refine lv_iconst (v := 1) hx hb dX7_valley_223 (by decide) ?_
    refine x_iald B hw 8 (by decide) rfl dX7_valley_224 hf (fun v12 hf => ?_)
    refine x_iast B hw 9 (by decide) (fun _ _ => rfl) dX7_valley_225 hf (fun S13 H locs hw hf => ?_)
    refine lv_aload_n hx hb dX7_valley_226 rfl (lv_at hl 0 rfl) ?_
    refine x_get B hw (Tb := TX7) inX7 0 (by decide) rfl rfl 16 (by decide) u706 (fun _ h => h) rfl dX7_valley_227 ?_
    refine lv_bipush (v := 32) hx hb dX7_valley_230 (by decide) ?_
    refine lv_iconst (v := 0) hx hb dX7_valley_232 (by decide) ?_
    refine x_iast B hw 9 (by decide) (fun _ _ => rfl) dX7_valley_233 hf (fun S14 H locs hw hf => ?_)
    refine lv_aload_n hx hb dX7_valley_234 rfl (lv_at hl 0 rfl) ?_
    refine x_get B hw (Tb := TX7) inX7 0 (by decide) rfl rfl 17 (by decide) u707 (fun _ h => h) rfl dX7_valley_235 ?_
    refine lv_iconst (v := 0) hx hb dX7_valley_238 (by decide) ?_
    refine lv_iconst (v := 0) hx hb dX7_valley_239 (by decide) ?_
    refine x_zast B hw 10 (by decide) (fun _ _ => rfl) dX7_valley_240 hf (fun S15 H locs hw hf => ?_)
    refine lv_aload_n hx hb dX7_valley_241 rfl (lv_at hl 0 rfl) ?_
    refine x_get B hw (Tb := TX7) inX7 0 (by decide) rfl rfl 17 (by decide) u707 (fun _ h => h) rfl dX7_valley_242 ?_
    refine lv_iconst (v := 1) hx hb dX7_valley_245 (by decide) ?_
    refine lv_iconst (v := 0) hx hb dX7_valley_246 (by decide) ?_
    refine x_zast B hw 10 (by decide) (fun _ _ => rfl) dX7_valley_247 hf (fun S16 H locs hw hf => ?_)
    refine lv_aload_n hx hb dX7_valley_248 rfl (lv_at hl 0 rfl) ?_
    refine lv_iconst (v := 0) hx hb dX7_valley_249 (by decide) ?_
    refine x_put B hw (Tb := TX7) inX7 tyX7 tyX7_ok nmX7 0 (by decide) rfl rfl 2 (by decide) u692 (fun _ h => h) rfl (ty := .int) (by decide +kernel) rfl rfl (Nat.le_of_ble_eq_true rfl) (S1 := upI S16 0 2 0) rfl upI_o (fun _ _ => rfl) dX7_valley_250 hf (fun S17 H locs hw hf => ?_)
    refine lv_iload_n hx hb dX7_valley_253 rfl (lv_at hl 1 rfl) ?_
    exact x_iret B hw hf dX7_valley_254
  · have hf := x_neg hc hf
    refine lv_aload_n hx hb dX7_valley_177 rfl (lv_at hl 0 rfl) ?_
    refine x_get B hw (Tb := TX7) inX7 0 (by decide) rfl rfl 7 (by decide) u697 (fun _ h => h) rfl dX7_valley_178 ?_
    refine lv_iload_n hx hb dX7_valley_181 rfl (lv_at hl 2 rfl) ?_
    refine lv_aload_n hx hb dX7_valley_182 rfl (lv_at hl 0 rfl) ?_
    refine x_get B hw (Tb := TX7) inX7 0 (by decide) rfl rfl 7 (by decide) u697 (fun _ h => h) rfl dX7_valley_183 ?_
    refine lv_bipush (v := 8) hx hb dX7_valley_186 (by decide) ?_
    refine lv_iload_n hx hb dX7_valley_188 rfl (lv_at hl 2 rfl) ?_
    refine lv_iadd hx hb dX7_valley_189 ?_
    refine x_iald B hw 6 (by decide) rfl dX7_valley_190 hf (fun v18 hf => ?_)
    refine x_iast B hw 6 (by decide) (fun _ _ => rfl) dX7_valley_191 hf (fun S19 H locs hw hf => ?_)
    refine lv_aload_n hx hb dX7_valley_192 rfl (lv_at hl 0 rfl) ?_
    refine x_get B hw (Tb := TX7) inX7 0 (by decide) rfl rfl 8 (by decide) u698 (fun _ h => h) rfl dX7_valley_193 ?_
    refine lv_iload_n hx hb dX7_valley_196 rfl (lv_at hl 2 rfl) ?_
    refine lv_aload_n hx hb dX7_valley_197 rfl (lv_at hl 0 rfl) ?_
    refine x_get B hw (Tb := TX7) inX7 0 (by decide) rfl rfl 8 (by decide) u698 (fun _ h => h) rfl dX7_valley_198 ?_
    refine lv_bipush (v := 8) hx hb dX7_valley_201 (by decide) ?_
    refine lv_iload_n hx hb dX7_valley_203 rfl (lv_at hl 2 rfl) ?_
    refine lv_iadd hx hb dX7_valley_204 ?_
    refine x_iald B hw 7 (by decide) rfl dX7_valley_205 hf (fun v20 hf => ?_)
    refine x_iast B hw 7 (by decide) (fun _ _ => rfl) dX7_valley_206 hf (fun S21 H locs hw hf => ?_)
    refine lv_iinc (v := x2 + 1) (lv' := [(2, .int (x2 + 1)), (0, .ref (q 0)), (1, .int x1)]) hx hb dX7_valley_207 hl (k := 2) rfl xi_1 (by decide) rfl (fun ls hl => ?_)
    refine lv_goto (tgt := 171) hx hb dX7_valley_210 (by decide) ?_
    exact hK171 x1 (x2 + 1) S21 _ _ _ hf hw (lv_sub hl [1, 2, 0] rfl)

theorem jMod_valley_h171_ok (B : XB p s m args meth c A cX7_valley 3 (some .int) RX7) {SF : St} {r : Int32} : ∀ (n : Nat) (x1 : Int32) (x2 : Int32) (S : St) (H : Heap) (locs : List Loc) (ls : Array Slot), jMod_valley_h171 n x1 x2 S = some (r, SF) → Xw D 17 (cellM T q) q T ExM A s S H locs → lv_has ls 3 [(0, .ref (q 0)), (1, .int x1), (2, .int x2)] → XG p l e ({ frames := 5, cells := 0, slots := 0, locals := 110 }) s m args below meth c D 17 (cellM T q) q T A SF (some (.int r)) H locs 171 ls [] := by
  intro n
  induction n with
  | zero =>
    intro x1 x2 S H locs ls hf hw hl
    rw [jMod_valley_h171] at hf
    cases hf
  | succ n ih =>
    intro x1 x2 S H locs ls hf hw hl
    rw [jMod_valley_h171] at hf
    exact jMod_valley_b171_ok B (jMod_valley_h171 n) ih x1 x2 S hf hw hl

set_option maxHeartbeats 4000000 in
theorem jMod_valley_b142_ok (B : XB p s m args meth c A cX7_valley 3 (some .int) RX7) {SF : St} {r : Int32} (K142 : Int32 → Int32 → St → Option (Int32 × St)) (hK142 : ∀ (x1 : Int32) (x2 : Int32) (S : St) (H : Heap) (locs : List Loc) (ls : Array Slot), K142 x1 x2 S = some (r, SF) → Xw D 17 (cellM T q) q T ExM A s S H locs → lv_has ls 3 [(0, .ref (q 0)), (1, .int x1), (2, .int x2)] → XG p l e ({ frames := 5, cells := 0, slots := 0, locals := 110 }) s m args below meth c D 17 (cellM T q) q T A SF (some (.int r)) H locs 142 ls [])  (x1 : Int32) (x2 : Int32) (S : St) {H : Heap} {locs : List Loc} {ls : Array Slot} (hf : jMod_valley_b142 K142 x1 x2 S = some (r, SF)) (hw : Xw D 17 (cellM T q) q T ExM A s S H locs) (hl : lv_has ls 3 [(0, .ref (q 0)), (1, .int x1), (2, .int x2)]) : XG p l e ({ frames := 5, cells := 0, slots := 0, locals := 110 }) s m args below meth c D 17 (cellM T q) q T A SF (some (.int r)) H locs 142 ls [] := by
  unfold jMod_valley_b142 at hf
  obtain ⟨hx, hb, hr, hml, hown, hts, hlk, hA⟩ := id B
  refine lv_iload_n hx hb dX7_valley_142 rfl (lv_at hl 2 rfl) ?_
  refine lv_bipush (v := 40) hx hb dX7_valley_143 (by decide) ?_
  refine lv_icmp_ge (tgt := 169) hx hb dX7_valley_145 (by decide) (fun hc => ?_) (fun hc => ?_)
  · have hf := x_pos hc hf
    refine lv_iconst (v := 0) hx hb dX7_valley_169 (by decide) ?_
    refine lv_istore_n (lv' := [(2, .int 0), (0, .ref (q 0)), (1, .int x1)]) hx hb dX7_valley_170 rfl hl (by decide) rfl (fun ls hl => ?_)
    exact jMod_valley_h171_ok B FU x1 0 S _ _ _ hf hw (lv_sub hl [1, 2, 0] rfl)
  · have hf := x_neg hc hf
    refine lv_aload_n hx hb dX7_valley_148 rfl (lv_at hl 0 rfl) ?_
    refine x_get B hw (Tb := TX7) inX7 0 (by decide) rfl rfl 6 (by decide) u696 (fun _ h => h) rfl dX7_valley_149 ?_
    refine lv_iload_n hx hb dX7_valley_152 rfl (lv_at hl 2 rfl) ?_
    refine lv_aload_n hx hb dX7_valley_153 rfl (lv_at hl 0 rfl) ?_
    refine x_get B hw (Tb := TX7) inX7 0 (by decide) rfl rfl 6 (by decide) u696 (fun _ h => h) rfl dX7_valley_154 ?_
    refine lv_bipush (v := 40) hx hb dX7_valley_157 (by decide) ?_
    refine lv_iload_n hx hb dX7_valley_159 rfl (lv_at hl 2 rfl) ?_
    refine lv_iadd hx hb dX7_valley_160 ?_
    refine x_iald B hw 5 (by decide) rfl dX7_valley_161 hf (fun v22 hf => ?_)
    refine x_iast B hw 5 (by decide) (fun _ _ => rfl) dX7_valley_162 hf (fun S23 H locs hw hf => ?_)
    refine lv_iinc (v := x2 + 1) (lv' := [(2, .int (x2 + 1)), (0, .ref (q 0)), (1, .int x1)]) hx hb dX7_valley_163 hl (k := 2) rfl xi_1 (by decide) rfl (fun ls hl => ?_)
    refine lv_goto (tgt := 142) hx hb dX7_valley_166 (by decide) ?_
    exact hK142 x1 (x2 + 1) S23 _ _ _ hf hw (lv_sub hl [1, 2, 0] rfl)

theorem jMod_valley_h142_ok (B : XB p s m args meth c A cX7_valley 3 (some .int) RX7) {SF : St} {r : Int32} : ∀ (n : Nat) (x1 : Int32) (x2 : Int32) (S : St) (H : Heap) (locs : List Loc) (ls : Array Slot), jMod_valley_h142 n x1 x2 S = some (r, SF) → Xw D 17 (cellM T q) q T ExM A s S H locs → lv_has ls 3 [(0, .ref (q 0)), (1, .int x1), (2, .int x2)] → XG p l e ({ frames := 5, cells := 0, slots := 0, locals := 110 }) s m args below meth c D 17 (cellM T q) q T A SF (some (.int r)) H locs 142 ls [] := by
  intro n
  induction n with
  | zero =>
    intro x1 x2 S H locs ls hf hw hl
    rw [jMod_valley_h142] at hf
    cases hf
  | succ n ih =>
    intro x1 x2 S H locs ls hf hw hl
    rw [jMod_valley_h142] at hf
    exact jMod_valley_b142_ok B (jMod_valley_h142 n) ih x1 x2 S hf hw hl

set_option maxHeartbeats 4000000 in
theorem jMod_valley_b113_ok (B : XB p s m args meth c A cX7_valley 3 (some .int) RX7) {SF : St} {r : Int32} (K113 : Int32 → Int32 → St → Option (Int32 × St)) (hK113 : ∀ (x1 : Int32) (x2 : Int32) (S : St) (H : Heap) (locs : List Loc) (ls : Array Slot), K113 x1 x2 S = some (r, SF) → Xw D 17 (cellM T q) q T ExM A s S H locs → lv_has ls 3 [(0, .ref (q 0)), (1, .int x1), (2, .int x2)] → XG p l e ({ frames := 5, cells := 0, slots := 0, locals := 110 }) s m args below meth c D 17 (cellM T q) q T A SF (some (.int r)) H locs 113 ls [])  (x1 : Int32) (x2 : Int32) (S : St) {H : Heap} {locs : List Loc} {ls : Array Slot} (hf : jMod_valley_b113 K113 x1 x2 S = some (r, SF)) (hw : Xw D 17 (cellM T q) q T ExM A s S H locs) (hl : lv_has ls 3 [(0, .ref (q 0)), (1, .int x1), (2, .int x2)]) : XG p l e ({ frames := 5, cells := 0, slots := 0, locals := 110 }) s m args below meth c D 17 (cellM T q) q T A SF (some (.int r)) H locs 113 ls [] := by
  unfold jMod_valley_b113 at hf
  obtain ⟨hx, hb, hr, hml, hown, hts, hlk, hA⟩ := id B
  refine lv_iload_n hx hb dX7_valley_113 rfl (lv_at hl 2 rfl) ?_
  refine lv_bipush (v := 30) hx hb dX7_valley_114 (by decide) ?_
  refine lv_icmp_ge (tgt := 140) hx hb dX7_valley_116 (by decide) (fun hc => ?_) (fun hc => ?_)
  · have hf := x_pos hc hf
    refine lv_iconst (v := 0) hx hb dX7_valley_140 (by decide) ?_
    refine lv_istore_n (lv' := [(2, .int 0), (0, .ref (q 0)), (1, .int x1)]) hx hb dX7_valley_141 rfl hl (by decide) rfl (fun ls hl => ?_)
    exact jMod_valley_h142_ok B FU x1 0 S _ _ _ hf hw (lv_sub hl [1, 2, 0] rfl)
  · have hf := x_neg hc hf
    refine lv_aload_n hx hb dX7_valley_119 rfl (lv_at hl 0 rfl) ?_
    refine x_get B hw (Tb := TX7) inX7 0 (by decide) rfl rfl 16 (by decide) u706 (fun _ h => h) rfl dX7_valley_120 ?_
    refine lv_iload_n hx hb dX7_valley_123 rfl (lv_at hl 2 rfl) ?_
    refine lv_aload_n hx hb dX7_valley_124 rfl (lv_at hl 0 rfl) ?_
    refine x_get B hw (Tb := TX7) inX7 0 (by decide) rfl rfl 4 (by decide) u694 (fun _ h => h) rfl dX7_valley_125 ?_
    refine lv_bipush (v := 30) hx hb dX7_valley_128 (by decide) ?_
    refine lv_iload_n hx hb dX7_valley_130 rfl (lv_at hl 2 rfl) ?_
    refine lv_iadd hx hb dX7_valley_131 ?_
    refine x_iald B hw 3 (by decide) rfl dX7_valley_132 hf (fun v24 hf => ?_)
    refine x_iast B hw 9 (by decide) (fun _ _ => rfl) dX7_valley_133 hf (fun S25 H locs hw hf => ?_)
    refine lv_iinc (v := x2 + 1) (lv' := [(2, .int (x2 + 1)), (0, .ref (q 0)), (1, .int x1)]) hx hb dX7_valley_134 hl (k := 2) rfl xi_1 (by decide) rfl (fun ls hl => ?_)
    refine lv_goto (tgt := 113) hx hb dX7_valley_137 (by decide) ?_
    exact hK113 x1 (x2 + 1) S25 _ _ _ hf hw (lv_sub hl [1, 2, 0] rfl)

theorem jMod_valley_h113_ok (B : XB p s m args meth c A cX7_valley 3 (some .int) RX7) {SF : St} {r : Int32} : ∀ (n : Nat) (x1 : Int32) (x2 : Int32) (S : St) (H : Heap) (locs : List Loc) (ls : Array Slot), jMod_valley_h113 n x1 x2 S = some (r, SF) → Xw D 17 (cellM T q) q T ExM A s S H locs → lv_has ls 3 [(0, .ref (q 0)), (1, .int x1), (2, .int x2)] → XG p l e ({ frames := 5, cells := 0, slots := 0, locals := 110 }) s m args below meth c D 17 (cellM T q) q T A SF (some (.int r)) H locs 113 ls [] := by
  intro n
  induction n with
  | zero =>
    intro x1 x2 S H locs ls hf hw hl
    rw [jMod_valley_h113] at hf
    cases hf
  | succ n ih =>
    intro x1 x2 S H locs ls hf hw hl
    rw [jMod_valley_h113] at hf
    exact jMod_valley_b113_ok B (jMod_valley_h113 n) ih x1 x2 S hf hw hl

set_option maxHeartbeats 4000000 in
theorem jMod_valley_b70_ok (B : XB p s m args meth c A cX7_valley 3 (some .int) RX7) {SF : St} {r : Int32}  (x1 : Int32) (S : St) {H : Heap} {locs : List Loc} {ls : Array Slot} (hf : jMod_valley_b70 x1 S = some (r, SF)) (hw : Xw D 17 (cellM T q) q T ExM A s S H locs) (hl : lv_has ls 3 [(0, .ref (q 0)), (1, .int x1)]) : XG p l e ({ frames := 5, cells := 0, slots := 0, locals := 110 }) s m args below meth c D 17 (cellM T q) q T A SF (some (.int r)) H locs 70 ls [] := by
  unfold jMod_valley_b70 at hf
  obtain ⟨hx, hb, hr, hml, hown, hts, hlk, hA⟩ := id B
  refine lv_aload_n hx hb dX7_valley_70 rfl (lv_at hl 0 rfl) ?_
  refine x_get B hw (Tb := TX7) inX7 0 (by decide) rfl rfl 14 (by decide) u704 (fun _ h => h) rfl dX7_valley_71 ?_
  refine lv_bipush (v := (-9)) hx hb dX7_valley_74 (by decide) ?_
  refine lv_icmp_eq (tgt := 87) hx hb dX7_valley_76 (by decide) (fun hc => ?_) (fun hc => ?_)
  · have hf := x_pos hc hf
    refine lv_aload_n hx hb dX7_valley_87 rfl (lv_at hl 0 rfl) ?_
    refine x_get B hw (Tb := TX7) inX7 0 (by decide) rfl rfl 3 (by decide) u693 (fun _ h => h) rfl dX7_valley_88 ?_
    refine lv_iconst (v := 0) hx hb dX7_valley_91 (by decide) ?_
    refine lv_aload_n hx hb dX7_valley_92 rfl (lv_at hl 0 rfl) ?_
    refine x_get B hw (Tb := TX7) inX7 0 (by decide) rfl rfl 3 (by decide) u693 (fun _ h => h) rfl dX7_valley_93 ?_
    refine lv_iconst (v := 1) hx hb dX7_valley_96 (by decide) ?_
    refine x_iald B hw 2 (by decide) rfl dX7_valley_97 hf (fun v8 hf => ?_)
    refine x_iast B hw 2 (by decide) (fun _ _ => rfl) dX7_valley_98 hf (fun S9 H locs hw hf => ?_)
    refine lv_aload_n hx hb dX7_valley_99 rfl (lv_at hl 0 rfl) ?_
    refine x_get B hw (Tb := TX7) inX7 0 (by decide) rfl rfl 5 (by decide) u695 (fun _ h => h) rfl dX7_valley_100 ?_
    refine lv_iconst (v := 0) hx hb dX7_valley_103 (by decide) ?_
    refine lv_aload_n hx hb dX7_valley_104 rfl (lv_at hl 0 rfl) ?_
    refine x_get B hw (Tb := TX7) inX7 0 (by decide) rfl rfl 5 (by decide) u695 (fun _ h => h) rfl dX7_valley_105 ?_
    refine lv_iconst (v := 1) hx hb dX7_valley_108 (by decide) ?_
    refine x_iald B hw 4 (by decide) rfl dX7_valley_109 hf (fun v10 hf => ?_)
    refine x_iast B hw 4 (by decide) (fun _ _ => rfl) dX7_valley_110 hf (fun S11 H locs hw hf => ?_)
    refine lv_iconst (v := 0) hx hb dX7_valley_111 (by decide) ?_
    refine lv_istore_n (lv' := [(2, .int 0), (0, .ref (q 0)), (1, .int x1)]) hx hb dX7_valley_112 rfl hl (by decide) rfl (fun ls hl => ?_)
    exact jMod_valley_h113_ok B FU x1 0 S11 _ _ _ hf hw (lv_sub hl [1, 2, 0] rfl)
  · have hf := x_neg hc hf
    refine lv_bipush (v := (-10)) hx hb dX7_valley_79 (by decide) ?_
    refine lv_aload_n hx hb dX7_valley_81 rfl (lv_at hl 0 rfl) ?_
    refine x_get B hw (Tb := TX7) inX7 0 (by decide) rfl rfl 14 (by decide) u704 (fun _ h => h) rfl dX7_valley_82 ?_
    refine lv_isub hx hb dX7_valley_85 ?_
    exact x_iret B hw hf dX7_valley_86

set_option maxHeartbeats 4000000 in
theorem jMod_valley_b43_ok (B : XB p s m args meth c A cX7_valley 3 (some .int) RX7) {SF : St} {r : Int32} (K43 : Int32 → St → Option (Int32 × St)) (hK43 : ∀ (x1 : Int32) (S : St) (H : Heap) (locs : List Loc) (ls : Array Slot), K43 x1 S = some (r, SF) → Xw D 17 (cellM T q) q T ExM A s S H locs → lv_has ls 3 [(0, .ref (q 0)), (1, .int x1)] → XG p l e ({ frames := 5, cells := 0, slots := 0, locals := 110 }) s m args below meth c D 17 (cellM T q) q T A SF (some (.int r)) H locs 43 ls [])  (x1 : Int32) (S : St) {H : Heap} {locs : List Loc} {ls : Array Slot} (hf : jMod_valley_b43 K43 x1 S = some (r, SF)) (hw : Xw D 17 (cellM T q) q T ExM A s S H locs) (hl : lv_has ls 3 [(0, .ref (q 0)), (1, .int x1)]) : XG p l e ({ frames := 5, cells := 0, slots := 0, locals := 110 }) s m args below meth c D 17 (cellM T q) q T A SF (some (.int r)) H locs 43 ls [] := by
  unfold jMod_valley_b43 at hf
  obtain ⟨hx, hb, hr, hml, hown, hts, hlk, hA⟩ := id B
  refine lv_aload_n hx hb dX7_valley_43 rfl (lv_at hl 0 rfl) ?_
  refine x_get B hw (Tb := TX7) inX7 0 (by decide) rfl rfl 14 (by decide) u704 (fun _ h => h) rfl dX7_valley_44 ?_
  refine lv_bipush (v := (-9)) hx hb dX7_valley_47 (by decide) ?_
  refine lv_icmp_ne (tgt := 70) hx hb dX7_valley_49 (by decide) (fun hc => ?_) (fun hc => ?_)
  · have hf := x_neg hc hf
    exact jMod_valley_b70_ok B x1 S hf hw (lv_sub hl [0, 1] rfl)
  · have hf := x_pos hc hf
    refine lv_aload_n hx hb dX7_valley_52 rfl (lv_at hl 0 rfl) ?_
    refine x_get B hw (Tb := TX7) inX7 0 (by decide) rfl rfl 12 (by decide) u702 (fun _ h => h) rfl dX7_valley_53 ?_
    refine lv_iconst (v := 3) hx hb dX7_valley_56 (by decide) ?_
    refine lv_icmp_eq (tgt := 70) hx hb dX7_valley_57 (by decide) (fun hc => ?_) (fun hc => ?_)
    · have hf := x_pos hc hf
      exact jMod_valley_b70_ok B x1 S hf hw (lv_sub hl [0, 1] rfl)
    · have hf := x_neg hc hf
      refine lv_aload_n hx hb dX7_valley_60 rfl (lv_at hl 0 rfl) ?_
      obtain ⟨S26, hc, hf⟩ := x_bv_some hf
      refine x_callV B ExM_ok hw 0 (by decide) rfl rfl (As := []) (rest := []) (st1 := []) (jMod_readItem_ok hc) u791 u793 u19 u45 u794 hdX7_readItem rfl ⟨Nat.le_of_ble_eq_true rfl, Nat.le_of_ble_eq_true rfl⟩ ⟨rfl, rfl⟩ hl.1 (Nat.le_of_ble_eq_true rfl) dX7_valley_61 (fun H locs hw => ?_) rfl rfl
      refine lv_iinc (v := x1 + 1) (lv' := [(1, .int (x1 + 1)), (0, .ref (q 0))]) hx hb dX7_valley_64 hl (k := 1) rfl xi_1 (by decide) rfl (fun ls hl => ?_)
      refine lv_goto (tgt := 43) hx hb dX7_valley_67 (by decide) ?_
      exact hK43 (x1 + 1) S26 _ _ _ hf hw (lv_sub hl [1, 0] rfl)

theorem jMod_valley_h43_ok (B : XB p s m args meth c A cX7_valley 3 (some .int) RX7) {SF : St} {r : Int32} : ∀ (n : Nat) (x1 : Int32) (S : St) (H : Heap) (locs : List Loc) (ls : Array Slot), jMod_valley_h43 n x1 S = some (r, SF) → Xw D 17 (cellM T q) q T ExM A s S H locs → lv_has ls 3 [(0, .ref (q 0)), (1, .int x1)] → XG p l e ({ frames := 5, cells := 0, slots := 0, locals := 110 }) s m args below meth c D 17 (cellM T q) q T A SF (some (.int r)) H locs 43 ls [] := by
  intro n
  induction n with
  | zero =>
    intro x1 S H locs ls hf hw hl
    rw [jMod_valley_h43] at hf
    cases hf
  | succ n ih =>
    intro x1 S H locs ls hf hw hl
    rw [jMod_valley_h43] at hf
    exact jMod_valley_b43_ok B (jMod_valley_h43 n) ih x1 S hf hw hl

set_option maxHeartbeats 4000000 in
theorem jMod_valley_b0_ok (B : XB p s m args meth c A cX7_valley 3 (some .int) RX7) {SF : St} {r : Int32}  (S : St) {H : Heap} {locs : List Loc} {ls : Array Slot} (hf : jMod_valley S = some (r, SF)) (hw : Xw D 17 (cellM T q) q T ExM A s S H locs) (hl : lv_has ls 3 [(0, .ref (q 0))]) : XG p l e ({ frames := 5, cells := 0, slots := 0, locals := 110 }) s m args below meth c D 17 (cellM T q) q T A SF (some (.int r)) H locs 0 ls [] := by
  unfold jMod_valley at hf
  obtain ⟨hx, hb, hr, hml, hown, hts, hlk, hA⟩ := id B
  refine lv_aload_n hx hb dX7_valley_0 rfl (lv_at hl 0 rfl) ?_
  refine lv_iconst (v := 0) hx hb dX7_valley_1 (by decide) ?_
  refine x_put B hw (Tb := TX7) inX7 tyX7 tyX7_ok nmX7 0 (by decide) rfl rfl 10 (by decide) u700 (fun _ h => h) rfl (ty := .int) (by decide +kernel) rfl rfl (Nat.le_of_ble_eq_true rfl) (S1 := upI S 0 10 0) rfl upI_o (fun _ _ => rfl) dX7_valley_2 hf (fun S1 H locs hw hf => ?_)
  refine lv_aload_n hx hb dX7_valley_5 rfl (lv_at hl 0 rfl) ?_
  refine lv_bipush (v := (-9)) hx hb dX7_valley_6 (by decide) ?_
  refine x_put B hw (Tb := TX7) inX7 tyX7 tyX7_ok nmX7 0 (by decide) rfl rfl 14 (by decide) u704 (fun _ h => h) rfl (ty := .int) (by decide +kernel) rfl rfl (Nat.le_of_ble_eq_true rfl) (S1 := upI S1 0 14 (-9)) rfl upI_o (fun _ _ => rfl) dX7_valley_8 hf (fun S2 H locs hw hf => ?_)
  refine lv_aload_n hx hb dX7_valley_11 rfl (lv_at hl 0 rfl) ?_
  refine x_get B hw (Tb := TX7) inX7 0 (by decide) rfl rfl 3 (by decide) u693 (fun _ h => h) rfl dX7_valley_12 ?_
  refine lv_iconst (v := 1) hx hb dX7_valley_15 (by decide) ?_
  refine lv_iconst (v := 0) hx hb dX7_valley_16 (by decide) ?_
  refine x_iast B hw 2 (by decide) (fun _ _ => rfl) dX7_valley_17 hf (fun S3 H locs hw hf => ?_)
  refine lv_aload_n hx hb dX7_valley_18 rfl (lv_at hl 0 rfl) ?_
  refine x_get B hw (Tb := TX7) inX7 0 (by decide) rfl rfl 5 (by decide) u695 (fun _ h => h) rfl dX7_valley_19 ?_
  refine lv_iconst (v := 1) hx hb dX7_valley_22 (by decide) ?_
  refine lv_iconst (v := 0) hx hb dX7_valley_23 (by decide) ?_
  refine x_iast B hw 4 (by decide) (fun _ _ => rfl) dX7_valley_24 hf (fun S4 H locs hw hf => ?_)
  refine lv_aload_n hx hb dX7_valley_25 rfl (lv_at hl 0 rfl) ?_
  refine x_get B hw (Tb := TX7) inX7 0 (by decide) rfl rfl 9 (by decide) u699 (fun _ h => h) rfl dX7_valley_26 ?_
  refine lv_iconst (v := 1) hx hb dX7_valley_29 (by decide) ?_
  refine lv_iconst (v := 0) hx hb dX7_valley_30 (by decide) ?_
  refine x_iast B hw 8 (by decide) (fun _ _ => rfl) dX7_valley_31 hf (fun S5 H locs hw hf => ?_)
  refine lv_aload_n hx hb dX7_valley_32 rfl (lv_at hl 0 rfl) ?_
  refine lv_iconst (v := 0) hx hb dX7_valley_33 (by decide) ?_
  refine x_put B hw (Tb := TX7) inX7 tyX7 tyX7_ok nmX7 0 (by decide) rfl rfl 15 (by decide) u705 (fun _ h => h) rfl (ty := .boolean) (by decide +kernel) rfl rfl (Nat.le_of_ble_eq_true rfl) (S1 := upI S5 0 15 0) rfl upI_o (fun _ _ => rfl) dX7_valley_34 hf (fun S6 H locs hw hf => ?_)
  refine lv_iconst (v := 0) hx hb dX7_valley_37 (by decide) ?_
  refine lv_istore_n (lv' := [(1, .int 0), (0, .ref (q 0))]) hx hb dX7_valley_38 rfl hl (by decide) rfl (fun ls hl => ?_)
  refine lv_aload_n hx hb dX7_valley_39 rfl (lv_at hl 1 rfl) ?_
  obtain ⟨S7, hc, hf⟩ := x_bv_some hf
  refine x_callV B ExM_ok hw 0 (by decide) rfl rfl (As := []) (rest := []) (st1 := []) (jMod_next_ok hc) u780 u782 u17 u45 u783 hdX7_next rfl ⟨Nat.le_of_ble_eq_true rfl, Nat.le_of_ble_eq_true rfl⟩ ⟨rfl, rfl⟩ hl.1 (Nat.le_of_ble_eq_true rfl) dX7_valley_40 (fun H locs hw => ?_) rfl rfl
  exact jMod_valley_h43_ok B FU 0 S7 _ _ _ hf hw (lv_sub hl [1, 0] rfl)

set_option maxHeartbeats 4000000 in
theorem jMod_valley_ok {S SF : St} {r : Int32} (hf : jMod_valley S = some (r, SF)) : XMet l D 17 (cellM T q) q T ExM yX7_valley cX7_valley 3 (some .int) ({ frames := 5, cells := 0, slots := 0, locals := 110 }) [.ref (q 0)] S (some (.int r)) SF := by
  refine x_enter (own := RX7) (by decide +kernel) rfl (Nat.le_of_ble_eq_true rfl) (fun p e s m below meth c A B ls hw hl0 => ?_)
  have hl : lv_has ls 3 [(0, .ref (q 0))] := hl0
  exact jMod_valley_b0_ok B S hf hw hl

set_option maxHeartbeats 4000000 in
theorem jMod_isHouse_b0_ok (B : XB p s m args meth c A cX7_isHouse 2 (some .boolean) RX7) {SF : St} {r : Int32}  (x1 : Int32) (S : St) {H : Heap} {locs : List Loc} {ls : Array Slot} (hf : jMod_isHouse x1 S = some (r, SF)) (hw : Xw D 17 (cellM T q) q T ExM A s S H locs) (hl : lv_has ls 2 [(0, .ref (q 0)), (1, .int x1)]) : XG p l e ({ frames := 1, cells := 0, slots := 0, locals := 22 }) s m args below meth c D 17 (cellM T q) q T A SF (some (.int r)) H locs 0 ls [] := by
  unfold jMod_isHouse at hf
  obtain ⟨hx, hb, hr, hml, hown, hts, hlk, hA⟩ := id B
  refine lv_iload_n hx hb dX7_isHouse_0 rfl (lv_at hl 1 rfl) ?_
  refine lv_iconst (v := 0) hx hb dX7_isHouse_1 (by decide) ?_
  refine lv_aload_n hx hb dX7_isHouse_2 rfl (lv_at hl 0 rfl) ?_
  refine x_get B hw (Tb := TX7) inX7 0 (by decide) rfl rfl 3 (by decide) u693 (fun _ h => h) rfl dX7_isHouse_3 ?_
  refine lv_iconst (v := 0) hx hb dX7_isHouse_6 (by decide) ?_
  refine x_iald B hw 2 (by decide) rfl dX7_isHouse_7 hf (fun v1 hf => ?_)
  refine lv_iconst (v := 1) hx hb dX7_isHouse_8 (by decide) ?_
  refine lv_isub hx hb dX7_isHouse_9 ?_
  obtain ⟨v3, S2, hc, hf⟩ := x_bd_some hf
  refine x_callS B ExM_ok hw (As := [.int x1, .int 0, .int (v1 - 1)]) (rest := []) (st1 := [.int v3]) (jMod_in_ok hc) u768 u769 u45 u770 hdX7_in rfl ⟨Nat.le_of_ble_eq_true rfl, Nat.le_of_ble_eq_true rfl⟩ ⟨rfl, rfl⟩ hl.1 (Nat.le_of_ble_eq_true rfl) dX7_isHouse_10 (fun H locs hw => ?_) rfl rfl
  exact x_zret B hw hf dX7_isHouse_13

set_option maxHeartbeats 4000000 in
theorem jMod_isHouse_ok {x1 : Int32} {S SF : St} {r : Int32} (hf : jMod_isHouse x1 S = some (r, SF)) : XMet l D 17 (cellM T q) q T ExM yX7_isHouse cX7_isHouse 2 (some .boolean) ({ frames := 1, cells := 0, slots := 0, locals := 22 }) [.ref (q 0), .int x1] S (some (.int r)) SF := by
  refine x_enter (own := RX7) (by decide +kernel) rfl (Nat.le_of_ble_eq_true rfl) (fun p e s m below meth c A B ls hw hl0 => ?_)
  have hl : lv_has ls 2 [(0, .ref (q 0)), (1, .int x1)] := hl0
  exact jMod_isHouse_b0_ok B x1 S hf hw hl

set_option maxHeartbeats 4000000 in
theorem jMod_storeOf_b4_ok (B : XB p s m args meth c A cX7_storeOf 4 (some .int) RX7) {SF : St} {r : Int32} (K4 : Int32 → Int32 → Int32 → St → Option (Int32 × St)) (hK4 : ∀ (x1 : Int32) (x2 : Int32) (x3 : Int32) (S : St) (H : Heap) (locs : List Loc) (ls : Array Slot), K4 x1 x2 x3 S = some (r, SF) → Xw D 17 (cellM T q) q T ExM A s S H locs → lv_has ls 4 [(0, .ref (q 0)), (1, .int x1), (2, .int x2), (3, .int x3)] → XG p l e ({ frames := 0, cells := 0, slots := 0, locals := 0 }) s m args below meth c D 17 (cellM T q) q T A SF (some (.int r)) H locs 4 ls [])  (x1 : Int32) (x2 : Int32) (x3 : Int32) (S : St) {H : Heap} {locs : List Loc} {ls : Array Slot} (hf : jMod_storeOf_b4 K4 x1 x2 x3 S = some (r, SF)) (hw : Xw D 17 (cellM T q) q T ExM A s S H locs) (hl : lv_has ls 4 [(0, .ref (q 0)), (1, .int x1), (2, .int x2), (3, .int x3)]) : XG p l e ({ frames := 0, cells := 0, slots := 0, locals := 0 }) s m args below meth c D 17 (cellM T q) q T A SF (some (.int r)) H locs 4 ls [] := by
  unfold jMod_storeOf_b4 at hf
  obtain ⟨hx, hb, hr, hml, hown, hts, hlk, hA⟩ := id B
  refine lv_iload_n hx hb dX7_storeOf_4 rfl (lv_at hl 3 rfl) ?_
  refine lv_iconst (v := 5) hx hb dX7_storeOf_5 (by decide) ?_
  refine lv_icmp_ge (tgt := 28) hx hb dX7_storeOf_6 (by decide) (fun hc => ?_) (fun hc => ?_)
  · have hf := x_pos hc hf
    refine lv_iload_n hx hb dX7_storeOf_28 rfl (lv_at hl 2 rfl) ?_
    exact x_iret B hw hf dX7_storeOf_29
  · have hf := x_neg hc hf
    refine lv_iload_n hx hb dX7_storeOf_9 rfl (lv_at hl 2 rfl) ?_
    refine lv_aload_n hx hb dX7_storeOf_10 rfl (lv_at hl 0 rfl) ?_
    refine x_get B hw (Tb := TX7) inX7 0 (by decide) rfl rfl 16 (by decide) u706 (fun _ h => h) rfl dX7_storeOf_11 ?_
    refine lv_iconst (v := 5) hx hb dX7_storeOf_14 (by decide) ?_
    refine lv_iload_n hx hb dX7_storeOf_15 rfl (lv_at hl 1 rfl) ?_
    refine lv_imul hx hb dX7_storeOf_16 ?_
    refine lv_iload_n hx hb dX7_storeOf_17 rfl (lv_at hl 3 rfl) ?_
    refine lv_iadd hx hb dX7_storeOf_18 ?_
    refine x_iald B hw 9 (by decide) rfl dX7_storeOf_19 hf (fun v1 hf => ?_)
    refine lv_iadd hx hb dX7_storeOf_20 ?_
    refine x_leti hf (fun v2 hf => ?_)
    refine lv_istore_n (lv' := [(2, .int v2), (0, .ref (q 0)), (1, .int x1), (3, .int x3)]) hx hb dX7_storeOf_21 rfl hl (by decide) rfl (fun ls hl => ?_)
    refine lv_iinc (v := x3 + 1) (lv' := [(3, .int (x3 + 1)), (2, .int v2), (0, .ref (q 0)), (1, .int x1)]) hx hb dX7_storeOf_22 hl (k := 3) rfl xi_1 (by decide) rfl (fun ls hl => ?_)
    refine lv_goto (tgt := 4) hx hb dX7_storeOf_25 (by decide) ?_
    exact hK4 x1 v2 (x3 + 1) S _ _ _ hf hw (lv_sub hl [2, 3, 1, 0] rfl)

theorem jMod_storeOf_h4_ok (B : XB p s m args meth c A cX7_storeOf 4 (some .int) RX7) {SF : St} {r : Int32} : ∀ (n : Nat) (x1 : Int32) (x2 : Int32) (x3 : Int32) (S : St) (H : Heap) (locs : List Loc) (ls : Array Slot), jMod_storeOf_h4 n x1 x2 x3 S = some (r, SF) → Xw D 17 (cellM T q) q T ExM A s S H locs → lv_has ls 4 [(0, .ref (q 0)), (1, .int x1), (2, .int x2), (3, .int x3)] → XG p l e ({ frames := 0, cells := 0, slots := 0, locals := 0 }) s m args below meth c D 17 (cellM T q) q T A SF (some (.int r)) H locs 4 ls [] := by
  intro n
  induction n with
  | zero =>
    intro x1 x2 x3 S H locs ls hf hw hl
    rw [jMod_storeOf_h4] at hf
    cases hf
  | succ n ih =>
    intro x1 x2 x3 S H locs ls hf hw hl
    rw [jMod_storeOf_h4] at hf
    exact jMod_storeOf_b4_ok B (jMod_storeOf_h4 n) ih x1 x2 x3 S hf hw hl

set_option maxHeartbeats 4000000 in
theorem jMod_storeOf_b0_ok (B : XB p s m args meth c A cX7_storeOf 4 (some .int) RX7) {SF : St} {r : Int32}  (x1 : Int32) (S : St) {H : Heap} {locs : List Loc} {ls : Array Slot} (hf : jMod_storeOf x1 S = some (r, SF)) (hw : Xw D 17 (cellM T q) q T ExM A s S H locs) (hl : lv_has ls 4 [(0, .ref (q 0)), (1, .int x1)]) : XG p l e ({ frames := 0, cells := 0, slots := 0, locals := 0 }) s m args below meth c D 17 (cellM T q) q T A SF (some (.int r)) H locs 0 ls [] := by
  unfold jMod_storeOf at hf
  obtain ⟨hx, hb, hr, hml, hown, hts, hlk, hA⟩ := id B
  refine lv_iconst (v := 0) hx hb dX7_storeOf_0 (by decide) ?_
  refine lv_istore_n (lv' := [(2, .int 0), (0, .ref (q 0)), (1, .int x1)]) hx hb dX7_storeOf_1 rfl hl (by decide) rfl (fun ls hl => ?_)
  refine lv_iconst (v := 0) hx hb dX7_storeOf_2 (by decide) ?_
  refine lv_istore_n (lv' := [(3, .int 0), (2, .int 0), (0, .ref (q 0)), (1, .int x1)]) hx hb dX7_storeOf_3 rfl hl (by decide) rfl (fun ls hl => ?_)
  exact jMod_storeOf_h4_ok B FU x1 0 0 S _ _ _ hf hw (lv_sub hl [2, 3, 1, 0] rfl)

set_option maxHeartbeats 4000000 in
theorem jMod_storeOf_ok {x1 : Int32} {S SF : St} {r : Int32} (hf : jMod_storeOf x1 S = some (r, SF)) : XMet l D 17 (cellM T q) q T ExM yX7_storeOf cX7_storeOf 4 (some .int) ({ frames := 0, cells := 0, slots := 0, locals := 0 }) [.ref (q 0), .int x1] S (some (.int r)) SF := by
  refine x_enter (own := RX7) (by decide +kernel) rfl (Nat.le_of_ble_eq_true rfl) (fun p e s m below meth c A B ls hw hl0 => ?_)
  have hl : lv_has ls 4 [(0, .ref (q 0)), (1, .int x1)] := hl0
  exact jMod_storeOf_b0_ok B x1 S hf hw hl

set_option maxHeartbeats 4000000 in
theorem jMod_house_b0_ok (B : XB p s m args meth c A cX7_house 3 (some .int) RX7) {SF : St} {r : Int32}  (x1 : Int32) (x2 : Int32) (S : St) {H : Heap} {locs : List Loc} {ls : Array Slot} (hf : jMod_house x1 x2 S = some (r, SF)) (hw : Xw D 17 (cellM T q) q T ExM A s S H locs) (hl : lv_has ls 3 [(0, .ref (q 0)), (1, .int x1), (2, .int x2)]) : XG p l e ({ frames := 2, cells := 0, slots := 0, locals := 43 }) s m args below meth c D 17 (cellM T q) q T A SF (some (.int r)) H locs 0 ls [] := by
  unfold jMod_house at hf
  obtain ⟨hx, hb, hr, hml, hown, hts, hlk, hA⟩ := id B
  refine lv_aload_n hx hb dX7_house_0 rfl (lv_at hl 0 rfl) ?_
  refine lv_iload_n hx hb dX7_house_1 rfl (lv_at hl 1 rfl) ?_
  obtain ⟨v2, S1, hc, hf⟩ := x_bd_some hf
  refine x_callV B ExM_ok hw 0 (by decide) rfl rfl (As := [.int x1]) (rest := []) (st1 := [.int v2]) (jMod_isHouse_ok hc) u807 u809 u22 u45 u810 hdX7_isHouse rfl ⟨Nat.le_of_ble_eq_true rfl, Nat.le_of_ble_eq_true rfl⟩ ⟨rfl, rfl⟩ hl.1 (Nat.le_of_ble_eq_true rfl) dX7_house_2 (fun H locs hw => ?_) rfl rfl
  refine lv_if_eq (tgt := 17) hx hb dX7_house_5 (by decide) (fun hc => ?_) (fun hc => ?_)
  · have hf := x_pos hc hf
    refine lv_iconst (v := (-1)) hx hb dX7_house_17 (by decide) ?_
    exact x_iret B hw hf dX7_house_18
  · have hf := x_neg hc hf
    refine lv_iload_n hx hb dX7_house_8 rfl (lv_at hl 2 rfl) ?_
    refine lv_iconst (v := 0) hx hb dX7_house_9 (by decide) ?_
    refine lv_iconst (v := 5) hx hb dX7_house_10 (by decide) ?_
    obtain ⟨v4, S3, hc, hf⟩ := x_bd_some hf
    refine x_callS B ExM_ok hw (As := [.int x2, .int 0, .int 5]) (rest := []) (st1 := [.int v4]) (jMod_in_ok hc) u768 u769 u45 u770 hdX7_in rfl ⟨Nat.le_of_ble_eq_true rfl, Nat.le_of_ble_eq_true rfl⟩ ⟨rfl, rfl⟩ hl.1 (Nat.le_of_ble_eq_true rfl) dX7_house_11 (fun H locs hw => ?_) rfl rfl
    refine lv_if_ne (tgt := 19) hx hb dX7_house_14 (by decide) (fun hc => ?_) (fun hc => ?_)
    · have hf := x_neg hc hf
      refine lv_iload_n hx hb dX7_house_19 rfl (lv_at hl 2 rfl) ?_
      refine lv_iconst (v := 5) hx hb dX7_house_20 (by decide) ?_
      refine lv_icmp_ge (tgt := 37) hx hb dX7_house_21 (by decide) (fun hc => ?_) (fun hc => ?_)
      · have hf := x_pos hc hf
        refine lv_aload_n hx hb dX7_house_37 rfl (lv_at hl 0 rfl) ?_
        refine lv_iload_n hx hb dX7_house_38 rfl (lv_at hl 1 rfl) ?_
        obtain ⟨v6, S5, hc, hf⟩ := x_bd_some hf
        refine x_callV B ExM_ok hw 0 (by decide) rfl rfl (As := [.int x1]) (rest := []) (st1 := [.int v6]) (jMod_storeOf_ok hc) u811 u813 u23 u45 u814 hdX7_storeOf rfl ⟨Nat.le_of_ble_eq_true rfl, Nat.le_of_ble_eq_true rfl⟩ ⟨rfl, rfl⟩ hl.1 (Nat.le_of_ble_eq_true rfl) dX7_house_39 (fun H locs hw => ?_) rfl rfl
        exact x_iret B hw hf dX7_house_42
      · have hf := x_neg hc hf
        refine lv_aload_n hx hb dX7_house_24 rfl (lv_at hl 0 rfl) ?_
        refine x_get B hw (Tb := TX7) inX7 0 (by decide) rfl rfl 16 (by decide) u706 (fun _ h => h) rfl dX7_house_25 ?_
        refine lv_iconst (v := 5) hx hb dX7_house_28 (by decide) ?_
        refine lv_iload_n hx hb dX7_house_29 rfl (lv_at hl 1 rfl) ?_
        refine lv_imul hx hb dX7_house_30 ?_
        refine lv_iload_n hx hb dX7_house_31 rfl (lv_at hl 2 rfl) ?_
        refine lv_iadd hx hb dX7_house_32 ?_
        refine x_iald B hw 9 (by decide) rfl dX7_house_33 hf (fun v7 hf => ?_)
        refine lv_goto (tgt := 42) hx hb dX7_house_34 (by decide) ?_
        exact x_iret B hw hf dX7_house_42
    · have hf := x_pos hc hf
      refine lv_iconst (v := (-1)) hx hb dX7_house_17 (by decide) ?_
      exact x_iret B hw hf dX7_house_18

set_option maxHeartbeats 4000000 in
theorem jMod_house_ok {x1 : Int32} {x2 : Int32} {S SF : St} {r : Int32} (hf : jMod_house x1 x2 S = some (r, SF)) : XMet l D 17 (cellM T q) q T ExM yX7_house cX7_house 3 (some .int) ({ frames := 2, cells := 0, slots := 0, locals := 43 }) [.ref (q 0), .int x1, .int x2] S (some (.int r)) SF := by
  refine x_enter (own := RX7) (by decide +kernel) rfl (Nat.le_of_ble_eq_true rfl) (fun p e s m below meth c A B ls hw hl0 => ?_)
  have hl : lv_has ls 3 [(0, .ref (q 0)), (1, .int x1), (2, .int x2)] := hl0
  exact jMod_house_b0_ok B x1 x2 S hf hw hl

set_option maxHeartbeats 4000000 in
theorem jMod_isDish_b0_ok (B : XB p s m args meth c A cX7_isDish 2 (some .boolean) RX7) {SF : St} {r : Int32}  (x1 : Int32) (S : St) {H : Heap} {locs : List Loc} {ls : Array Slot} (hf : jMod_isDish x1 S = some (r, SF)) (hw : Xw D 17 (cellM T q) q T ExM A s S H locs) (hl : lv_has ls 2 [(0, .ref (q 0)), (1, .int x1)]) : XG p l e ({ frames := 1, cells := 0, slots := 0, locals := 22 }) s m args below meth c D 17 (cellM T q) q T A SF (some (.int r)) H locs 0 ls [] := by
  unfold jMod_isDish at hf
  obtain ⟨hx, hb, hr, hml, hown, hts, hlk, hA⟩ := id B
  refine lv_iload_n hx hb dX7_isDish_0 rfl (lv_at hl 1 rfl) ?_
  refine lv_iconst (v := 0) hx hb dX7_isDish_1 (by decide) ?_
  refine lv_aload_n hx hb dX7_isDish_2 rfl (lv_at hl 0 rfl) ?_
  refine x_get B hw (Tb := TX7) inX7 0 (by decide) rfl rfl 5 (by decide) u695 (fun _ h => h) rfl dX7_isDish_3 ?_
  refine lv_iconst (v := 0) hx hb dX7_isDish_6 (by decide) ?_
  refine x_iald B hw 4 (by decide) rfl dX7_isDish_7 hf (fun v1 hf => ?_)
  refine lv_iconst (v := 1) hx hb dX7_isDish_8 (by decide) ?_
  refine lv_isub hx hb dX7_isDish_9 ?_
  obtain ⟨v3, S2, hc, hf⟩ := x_bd_some hf
  refine x_callS B ExM_ok hw (As := [.int x1, .int 0, .int (v1 - 1)]) (rest := []) (st1 := [.int v3]) (jMod_in_ok hc) u768 u769 u45 u770 hdX7_in rfl ⟨Nat.le_of_ble_eq_true rfl, Nat.le_of_ble_eq_true rfl⟩ ⟨rfl, rfl⟩ hl.1 (Nat.le_of_ble_eq_true rfl) dX7_isDish_10 (fun H locs hw => ?_) rfl rfl
  exact x_zret B hw hf dX7_isDish_13

set_option maxHeartbeats 4000000 in
theorem jMod_isDish_ok {x1 : Int32} {S SF : St} {r : Int32} (hf : jMod_isDish x1 S = some (r, SF)) : XMet l D 17 (cellM T q) q T ExM yX7_isDish cX7_isDish 2 (some .boolean) ({ frames := 1, cells := 0, slots := 0, locals := 22 }) [.ref (q 0), .int x1] S (some (.int r)) SF := by
  refine x_enter (own := RX7) (by decide +kernel) rfl (Nat.le_of_ble_eq_true rfl) (fun p e s m below meth c A B ls hw hl0 => ?_)
  have hl : lv_has ls 2 [(0, .ref (q 0)), (1, .int x1)] := hl0
  exact jMod_isDish_b0_ok B x1 S hf hw hl

set_option maxHeartbeats 4000000 in
theorem jMod_unitsOf_b4_ok (B : XB p s m args meth c A cX7_unitsOf 4 (some .int) RX7) {SF : St} {r : Int32} (K4 : Int32 → Int32 → Int32 → St → Option (Int32 × St)) (hK4 : ∀ (x1 : Int32) (x2 : Int32) (x3 : Int32) (S : St) (H : Heap) (locs : List Loc) (ls : Array Slot), K4 x1 x2 x3 S = some (r, SF) → Xw D 17 (cellM T q) q T ExM A s S H locs → lv_has ls 4 [(0, .ref (q 0)), (1, .int x1), (2, .int x2), (3, .int x3)] → XG p l e ({ frames := 0, cells := 0, slots := 0, locals := 0 }) s m args below meth c D 17 (cellM T q) q T A SF (some (.int r)) H locs 4 ls [])  (x1 : Int32) (x2 : Int32) (x3 : Int32) (S : St) {H : Heap} {locs : List Loc} {ls : Array Slot} (hf : jMod_unitsOf_b4 K4 x1 x2 x3 S = some (r, SF)) (hw : Xw D 17 (cellM T q) q T ExM A s S H locs) (hl : lv_has ls 4 [(0, .ref (q 0)), (1, .int x1), (2, .int x2), (3, .int x3)]) : XG p l e ({ frames := 0, cells := 0, slots := 0, locals := 0 }) s m args below meth c D 17 (cellM T q) q T A SF (some (.int r)) H locs 4 ls [] := by
  unfold jMod_unitsOf_b4 at hf
  obtain ⟨hx, hb, hr, hml, hown, hts, hlk, hA⟩ := id B
  refine lv_iload_n hx hb dX7_unitsOf_4 rfl (lv_at hl 3 rfl) ?_
  refine lv_iconst (v := 5) hx hb dX7_unitsOf_5 (by decide) ?_
  refine lv_icmp_ge (tgt := 28) hx hb dX7_unitsOf_6 (by decide) (fun hc => ?_) (fun hc => ?_)
  · have hf := x_pos hc hf
    refine lv_iload_n hx hb dX7_unitsOf_28 rfl (lv_at hl 2 rfl) ?_
    exact x_iret B hw hf dX7_unitsOf_29
  · have hf := x_neg hc hf
    refine lv_iload_n hx hb dX7_unitsOf_9 rfl (lv_at hl 2 rfl) ?_
    refine lv_aload_n hx hb dX7_unitsOf_10 rfl (lv_at hl 0 rfl) ?_
    refine x_get B hw (Tb := TX7) inX7 0 (by decide) rfl rfl 6 (by decide) u696 (fun _ h => h) rfl dX7_unitsOf_11 ?_
    refine lv_iconst (v := 5) hx hb dX7_unitsOf_14 (by decide) ?_
    refine lv_iload_n hx hb dX7_unitsOf_15 rfl (lv_at hl 1 rfl) ?_
    refine lv_imul hx hb dX7_unitsOf_16 ?_
    refine lv_iload_n hx hb dX7_unitsOf_17 rfl (lv_at hl 3 rfl) ?_
    refine lv_iadd hx hb dX7_unitsOf_18 ?_
    refine x_iald B hw 5 (by decide) rfl dX7_unitsOf_19 hf (fun v1 hf => ?_)
    refine lv_iadd hx hb dX7_unitsOf_20 ?_
    refine x_leti hf (fun v2 hf => ?_)
    refine lv_istore_n (lv' := [(2, .int v2), (0, .ref (q 0)), (1, .int x1), (3, .int x3)]) hx hb dX7_unitsOf_21 rfl hl (by decide) rfl (fun ls hl => ?_)
    refine lv_iinc (v := x3 + 1) (lv' := [(3, .int (x3 + 1)), (2, .int v2), (0, .ref (q 0)), (1, .int x1)]) hx hb dX7_unitsOf_22 hl (k := 3) rfl xi_1 (by decide) rfl (fun ls hl => ?_)
    refine lv_goto (tgt := 4) hx hb dX7_unitsOf_25 (by decide) ?_
    exact hK4 x1 v2 (x3 + 1) S _ _ _ hf hw (lv_sub hl [2, 3, 1, 0] rfl)

theorem jMod_unitsOf_h4_ok (B : XB p s m args meth c A cX7_unitsOf 4 (some .int) RX7) {SF : St} {r : Int32} : ∀ (n : Nat) (x1 : Int32) (x2 : Int32) (x3 : Int32) (S : St) (H : Heap) (locs : List Loc) (ls : Array Slot), jMod_unitsOf_h4 n x1 x2 x3 S = some (r, SF) → Xw D 17 (cellM T q) q T ExM A s S H locs → lv_has ls 4 [(0, .ref (q 0)), (1, .int x1), (2, .int x2), (3, .int x3)] → XG p l e ({ frames := 0, cells := 0, slots := 0, locals := 0 }) s m args below meth c D 17 (cellM T q) q T A SF (some (.int r)) H locs 4 ls [] := by
  intro n
  induction n with
  | zero =>
    intro x1 x2 x3 S H locs ls hf hw hl
    rw [jMod_unitsOf_h4] at hf
    cases hf
  | succ n ih =>
    intro x1 x2 x3 S H locs ls hf hw hl
    rw [jMod_unitsOf_h4] at hf
    exact jMod_unitsOf_b4_ok B (jMod_unitsOf_h4 n) ih x1 x2 x3 S hf hw hl

set_option maxHeartbeats 4000000 in
theorem jMod_unitsOf_b0_ok (B : XB p s m args meth c A cX7_unitsOf 4 (some .int) RX7) {SF : St} {r : Int32}  (x1 : Int32) (S : St) {H : Heap} {locs : List Loc} {ls : Array Slot} (hf : jMod_unitsOf x1 S = some (r, SF)) (hw : Xw D 17 (cellM T q) q T ExM A s S H locs) (hl : lv_has ls 4 [(0, .ref (q 0)), (1, .int x1)]) : XG p l e ({ frames := 0, cells := 0, slots := 0, locals := 0 }) s m args below meth c D 17 (cellM T q) q T A SF (some (.int r)) H locs 0 ls [] := by
  unfold jMod_unitsOf at hf
  obtain ⟨hx, hb, hr, hml, hown, hts, hlk, hA⟩ := id B
  refine lv_iconst (v := 0) hx hb dX7_unitsOf_0 (by decide) ?_
  refine lv_istore_n (lv' := [(2, .int 0), (0, .ref (q 0)), (1, .int x1)]) hx hb dX7_unitsOf_1 rfl hl (by decide) rfl (fun ls hl => ?_)
  refine lv_iconst (v := 0) hx hb dX7_unitsOf_2 (by decide) ?_
  refine lv_istore_n (lv' := [(3, .int 0), (2, .int 0), (0, .ref (q 0)), (1, .int x1)]) hx hb dX7_unitsOf_3 rfl hl (by decide) rfl (fun ls hl => ?_)
  exact jMod_unitsOf_h4_ok B FU x1 0 0 S _ _ _ hf hw (lv_sub hl [2, 3, 1, 0] rfl)

set_option maxHeartbeats 4000000 in
theorem jMod_unitsOf_ok {x1 : Int32} {S SF : St} {r : Int32} (hf : jMod_unitsOf x1 S = some (r, SF)) : XMet l D 17 (cellM T q) q T ExM yX7_unitsOf cX7_unitsOf 4 (some .int) ({ frames := 0, cells := 0, slots := 0, locals := 0 }) [.ref (q 0), .int x1] S (some (.int r)) SF := by
  refine x_enter (own := RX7) (by decide +kernel) rfl (Nat.le_of_ble_eq_true rfl) (fun p e s m below meth c A B ls hw hl0 => ?_)
  have hl : lv_has ls 4 [(0, .ref (q 0)), (1, .int x1)] := hl0
  exact jMod_unitsOf_b0_ok B x1 S hf hw hl

set_option maxHeartbeats 4000000 in
theorem jMod_dish_b0_ok (B : XB p s m args meth c A cX7_dish 3 (some .int) RX7) {SF : St} {r : Int32}  (x1 : Int32) (x2 : Int32) (S : St) {H : Heap} {locs : List Loc} {ls : Array Slot} (hf : jMod_dish x1 x2 S = some (r, SF)) (hw : Xw D 17 (cellM T q) q T ExM A s S H locs) (hl : lv_has ls 3 [(0, .ref (q 0)), (1, .int x1), (2, .int x2)]) : XG p l e ({ frames := 2, cells := 0, slots := 0, locals := 43 }) s m args below meth c D 17 (cellM T q) q T A SF (some (.int r)) H locs 0 ls [] := by
  unfold jMod_dish at hf
  obtain ⟨hx, hb, hr, hml, hown, hts, hlk, hA⟩ := id B
  refine lv_aload_n hx hb dX7_dish_0 rfl (lv_at hl 0 rfl) ?_
  refine lv_iload_n hx hb dX7_dish_1 rfl (lv_at hl 1 rfl) ?_
  obtain ⟨v2, S1, hc, hf⟩ := x_bd_some hf
  refine x_callV B ExM_ok hw 0 (by decide) rfl rfl (As := [.int x1]) (rest := []) (st1 := [.int v2]) (jMod_isDish_ok hc) u819 u821 u24 u45 u822 hdX7_isDish rfl ⟨Nat.le_of_ble_eq_true rfl, Nat.le_of_ble_eq_true rfl⟩ ⟨rfl, rfl⟩ hl.1 (Nat.le_of_ble_eq_true rfl) dX7_dish_2 (fun H locs hw => ?_) rfl rfl
  refine lv_if_eq (tgt := 18) hx hb dX7_dish_5 (by decide) (fun hc => ?_) (fun hc => ?_)
  · have hf := x_pos hc hf
    refine lv_iconst (v := (-1)) hx hb dX7_dish_18 (by decide) ?_
    exact x_iret B hw hf dX7_dish_19
  · have hf := x_neg hc hf
    refine lv_iload_n hx hb dX7_dish_8 rfl (lv_at hl 2 rfl) ?_
    refine lv_iconst (v := 0) hx hb dX7_dish_9 (by decide) ?_
    refine lv_bipush (v := 7) hx hb dX7_dish_10 (by decide) ?_
    obtain ⟨v4, S3, hc, hf⟩ := x_bd_some hf
    refine x_callS B ExM_ok hw (As := [.int x2, .int 0, .int 7]) (rest := []) (st1 := [.int v4]) (jMod_in_ok hc) u768 u769 u45 u770 hdX7_in rfl ⟨Nat.le_of_ble_eq_true rfl, Nat.le_of_ble_eq_true rfl⟩ ⟨rfl, rfl⟩ hl.1 (Nat.le_of_ble_eq_true rfl) dX7_dish_12 (fun H locs hw => ?_) rfl rfl
    refine lv_if_ne (tgt := 20) hx hb dX7_dish_15 (by decide) (fun hc => ?_) (fun hc => ?_)
    · have hf := x_neg hc hf
      refine lv_iload_n hx hb dX7_dish_20 rfl (lv_at hl 2 rfl) ?_
      refine lv_iconst (v := 5) hx hb dX7_dish_21 (by decide) ?_
      refine lv_icmp_ge (tgt := 38) hx hb dX7_dish_22 (by decide) (fun hc => ?_) (fun hc => ?_)
      · have hf := x_pos hc hf
        refine lv_iload_n hx hb dX7_dish_38 rfl (lv_at hl 2 rfl) ?_
        refine lv_iconst (v := 5) hx hb dX7_dish_39 (by decide) ?_
        refine lv_icmp_ne (tgt := 52) hx hb dX7_dish_40 (by decide) (fun hc => ?_) (fun hc => ?_)
        · have hf := x_neg hc hf
          refine lv_iload_n hx hb dX7_dish_52 rfl (lv_at hl 2 rfl) ?_
          refine lv_bipush (v := 6) hx hb dX7_dish_53 (by decide) ?_
          refine lv_icmp_ne (tgt := 67) hx hb dX7_dish_55 (by decide) (fun hc => ?_) (fun hc => ?_)
          · have hf := x_neg hc hf
            refine lv_aload_n hx hb dX7_dish_67 rfl (lv_at hl 0 rfl) ?_
            refine lv_iload_n hx hb dX7_dish_68 rfl (lv_at hl 1 rfl) ?_
            obtain ⟨v6, S5, hc, hf⟩ := x_bd_some hf
            refine x_callV B ExM_ok hw 0 (by decide) rfl rfl (As := [.int x1]) (rest := []) (st1 := [.int v6]) (jMod_unitsOf_ok hc) u823 u825 u25 u45 u826 hdX7_unitsOf rfl ⟨Nat.le_of_ble_eq_true rfl, Nat.le_of_ble_eq_true rfl⟩ ⟨rfl, rfl⟩ hl.1 (Nat.le_of_ble_eq_true rfl) dX7_dish_69 (fun H locs hw => ?_) rfl rfl
            exact x_iret B hw hf dX7_dish_72
          · have hf := x_pos hc hf
            refine lv_aload_n hx hb dX7_dish_58 rfl (lv_at hl 0 rfl) ?_
            refine x_get B hw (Tb := TX7) inX7 0 (by decide) rfl rfl 8 (by decide) u698 (fun _ h => h) rfl dX7_dish_59 ?_
            refine lv_iload_n hx hb dX7_dish_62 rfl (lv_at hl 1 rfl) ?_
            refine x_iald B hw 7 (by decide) rfl dX7_dish_63 hf (fun v7 hf => ?_)
            refine lv_goto (tgt := 72) hx hb dX7_dish_64 (by decide) ?_
            exact x_iret B hw hf dX7_dish_72
        · have hf := x_pos hc hf
          refine lv_aload_n hx hb dX7_dish_43 rfl (lv_at hl 0 rfl) ?_
          refine x_get B hw (Tb := TX7) inX7 0 (by decide) rfl rfl 7 (by decide) u697 (fun _ h => h) rfl dX7_dish_44 ?_
          refine lv_iload_n hx hb dX7_dish_47 rfl (lv_at hl 1 rfl) ?_
          refine x_iald B hw 6 (by decide) rfl dX7_dish_48 hf (fun v8 hf => ?_)
          refine lv_goto (tgt := 72) hx hb dX7_dish_49 (by decide) ?_
          exact x_iret B hw hf dX7_dish_72
      · have hf := x_neg hc hf
        refine lv_aload_n hx hb dX7_dish_25 rfl (lv_at hl 0 rfl) ?_
        refine x_get B hw (Tb := TX7) inX7 0 (by decide) rfl rfl 6 (by decide) u696 (fun _ h => h) rfl dX7_dish_26 ?_
        refine lv_iconst (v := 5) hx hb dX7_dish_29 (by decide) ?_
        refine lv_iload_n hx hb dX7_dish_30 rfl (lv_at hl 1 rfl) ?_
        refine lv_imul hx hb dX7_dish_31 ?_
        refine lv_iload_n hx hb dX7_dish_32 rfl (lv_at hl 2 rfl) ?_
        refine lv_iadd hx hb dX7_dish_33 ?_
        refine x_iald B hw 5 (by decide) rfl dX7_dish_34 hf (fun v9 hf => ?_)
        refine lv_goto (tgt := 72) hx hb dX7_dish_35 (by decide) ?_
        exact x_iret B hw hf dX7_dish_72
    · have hf := x_pos hc hf
      refine lv_iconst (v := (-1)) hx hb dX7_dish_18 (by decide) ?_
      exact x_iret B hw hf dX7_dish_19

set_option maxHeartbeats 4000000 in
theorem jMod_dish_ok {x1 : Int32} {x2 : Int32} {S SF : St} {r : Int32} (hf : jMod_dish x1 x2 S = some (r, SF)) : XMet l D 17 (cellM T q) q T ExM yX7_dish cX7_dish 3 (some .int) ({ frames := 2, cells := 0, slots := 0, locals := 43 }) [.ref (q 0), .int x1, .int x2] S (some (.int r)) SF := by
  refine x_enter (own := RX7) (by decide +kernel) rfl (Nat.le_of_ble_eq_true rfl) (fun p e s m below meth c A B ls hw hl0 => ?_)
  have hl : lv_has ls 3 [(0, .ref (q 0)), (1, .int x1), (2, .int x2)] := hl0
  exact jMod_dish_b0_ok B x1 x2 S hf hw hl

set_option maxHeartbeats 4000000 in
theorem jMod_canCook_b5_ok (B : XB p s m args meth c A cX7_canCook 5 (some .boolean) RX7) {SF : St} {r : Int32} (K5 : Int32 → Int32 → Int32 → Int32 → St → Option (Int32 × St)) (hK5 : ∀ (x1 : Int32) (x2 : Int32) (x3 : Int32) (x4 : Int32) (S : St) (H : Heap) (locs : List Loc) (ls : Array Slot), K5 x1 x2 x3 x4 S = some (r, SF) → Xw D 17 (cellM T q) q T ExM A s S H locs → lv_has ls 5 [(0, .ref (q 0)), (1, .int x1), (2, .int x2), (3, .int x3), (4, .int x4)] → XG p l e ({ frames := 0, cells := 0, slots := 0, locals := 0 }) s m args below meth c D 17 (cellM T q) q T A SF (some (.int r)) H locs 5 ls [])  (x1 : Int32) (x2 : Int32) (x3 : Int32) (x4 : Int32) (S : St) {H : Heap} {locs : List Loc} {ls : Array Slot} (hf : jMod_canCook_b5 K5 x1 x2 x3 x4 S = some (r, SF)) (hw : Xw D 17 (cellM T q) q T ExM A s S H locs) (hl : lv_has ls 5 [(0, .ref (q 0)), (1, .int x1), (2, .int x2), (3, .int x3), (4, .int x4)]) : XG p l e ({ frames := 0, cells := 0, slots := 0, locals := 0 }) s m args below meth c D 17 (cellM T q) q T A SF (some (.int r)) H locs 5 ls [] := by
  unfold jMod_canCook_b5 at hf
  obtain ⟨hx, hb, hr, hml, hown, hts, hlk, hA⟩ := id B
  refine lv_iload hx hb dX7_canCook_5 (lv_at hl 4 rfl) ?_
  refine lv_iconst (v := 5) hx hb dX7_canCook_7 (by decide) ?_
  refine lv_icmp_ge (tgt := 52) hx hb dX7_canCook_8 (by decide) (fun hc => ?_) (fun hc => ?_)
  · have hf := x_pos hc hf
    refine lv_iload_n hx hb dX7_canCook_52 rfl (lv_at hl 3 rfl) ?_
    exact x_zret B hw hf dX7_canCook_53
  · have hf := x_neg hc hf
    refine lv_iload_n hx hb dX7_canCook_11 rfl (lv_at hl 3 rfl) ?_
    refine lv_if_eq (tgt := 44) hx hb dX7_canCook_12 (by decide) (fun hc => ?_) (fun hc => ?_)
    · have hf := x_pos hc hf
      refine lv_iconst (v := 0) hx hb dX7_canCook_44 (by decide) ?_
      refine lv_istore_n (lv' := [(3, .int 0), (0, .ref (q 0)), (1, .int x1), (2, .int x2), (4, .int x4)]) hx hb dX7_canCook_45 rfl hl (by decide) rfl (fun ls hl => ?_)
      refine lv_iinc (v := x4 + 1) (lv' := [(4, .int (x4 + 1)), (3, .int 0), (0, .ref (q 0)), (1, .int x1), (2, .int x2)]) hx hb dX7_canCook_46 hl (k := 4) rfl xi_1 (by decide) rfl (fun ls hl => ?_)
      refine lv_goto (tgt := 5) hx hb dX7_canCook_49 (by decide) ?_
      exact hK5 x1 x2 0 (x4 + 1) S _ _ _ hf hw (lv_sub hl [2, 3, 4, 1, 0] rfl)
    · have hf := x_neg hc hf
      refine lv_aload_n hx hb dX7_canCook_15 rfl (lv_at hl 0 rfl) ?_
      refine x_get B hw (Tb := TX7) inX7 0 (by decide) rfl rfl 16 (by decide) u706 (fun _ h => h) rfl dX7_canCook_16 ?_
      refine lv_iconst (v := 5) hx hb dX7_canCook_19 (by decide) ?_
      refine lv_iload_n hx hb dX7_canCook_20 rfl (lv_at hl 1 rfl) ?_
      refine lv_imul hx hb dX7_canCook_21 ?_
      refine lv_iload hx hb dX7_canCook_22 (lv_at hl 4 rfl) ?_
      refine lv_iadd hx hb dX7_canCook_24 ?_
      refine x_iald B hw 9 (by decide) rfl dX7_canCook_25 hf (fun v1 hf => ?_)
      refine lv_aload_n hx hb dX7_canCook_26 rfl (lv_at hl 0 rfl) ?_
      refine x_get B hw (Tb := TX7) inX7 0 (by decide) rfl rfl 6 (by decide) u696 (fun _ h => h) rfl dX7_canCook_27 ?_
      refine lv_iconst (v := 5) hx hb dX7_canCook_30 (by decide) ?_
      refine lv_iload_n hx hb dX7_canCook_31 rfl (lv_at hl 2 rfl) ?_
      refine lv_imul hx hb dX7_canCook_32 ?_
      refine lv_iload hx hb dX7_canCook_33 (lv_at hl 4 rfl) ?_
      refine lv_iadd hx hb dX7_canCook_35 ?_
      refine x_iald B hw 5 (by decide) rfl dX7_canCook_36 hf (fun v2 hf => ?_)
      refine lv_icmp_lt (tgt := 44) hx hb dX7_canCook_37 (by decide) (fun hc => ?_) (fun hc => ?_)
      · have hf := x_pos hc hf
        refine lv_iconst (v := 0) hx hb dX7_canCook_44 (by decide) ?_
        refine lv_istore_n (lv' := [(3, .int 0), (0, .ref (q 0)), (1, .int x1), (2, .int x2), (4, .int x4)]) hx hb dX7_canCook_45 rfl hl (by decide) rfl (fun ls hl => ?_)
        refine lv_iinc (v := x4 + 1) (lv' := [(4, .int (x4 + 1)), (3, .int 0), (0, .ref (q 0)), (1, .int x1), (2, .int x2)]) hx hb dX7_canCook_46 hl (k := 4) rfl xi_1 (by decide) rfl (fun ls hl => ?_)
        refine lv_goto (tgt := 5) hx hb dX7_canCook_49 (by decide) ?_
        exact hK5 x1 x2 0 (x4 + 1) S _ _ _ hf hw (lv_sub hl [2, 3, 4, 1, 0] rfl)
      · have hf := x_neg hc hf
        refine lv_iconst (v := 1) hx hb dX7_canCook_40 (by decide) ?_
        refine lv_goto (tgt := 45) hx hb dX7_canCook_41 (by decide) ?_
        refine lv_istore_n (lv' := [(3, .int 1), (0, .ref (q 0)), (1, .int x1), (2, .int x2), (4, .int x4)]) hx hb dX7_canCook_45 rfl hl (by decide) rfl (fun ls hl => ?_)
        refine lv_iinc (v := x4 + 1) (lv' := [(4, .int (x4 + 1)), (3, .int 1), (0, .ref (q 0)), (1, .int x1), (2, .int x2)]) hx hb dX7_canCook_46 hl (k := 4) rfl xi_1 (by decide) rfl (fun ls hl => ?_)
        refine lv_goto (tgt := 5) hx hb dX7_canCook_49 (by decide) ?_
        exact hK5 x1 x2 1 (x4 + 1) S _ _ _ hf hw (lv_sub hl [2, 3, 4, 1, 0] rfl)

theorem jMod_canCook_h5_ok (B : XB p s m args meth c A cX7_canCook 5 (some .boolean) RX7) {SF : St} {r : Int32} : ∀ (n : Nat) (x1 : Int32) (x2 : Int32) (x3 : Int32) (x4 : Int32) (S : St) (H : Heap) (locs : List Loc) (ls : Array Slot), jMod_canCook_h5 n x1 x2 x3 x4 S = some (r, SF) → Xw D 17 (cellM T q) q T ExM A s S H locs → lv_has ls 5 [(0, .ref (q 0)), (1, .int x1), (2, .int x2), (3, .int x3), (4, .int x4)] → XG p l e ({ frames := 0, cells := 0, slots := 0, locals := 0 }) s m args below meth c D 17 (cellM T q) q T A SF (some (.int r)) H locs 5 ls [] := by
  intro n
  induction n with
  | zero =>
    intro x1 x2 x3 x4 S H locs ls hf hw hl
    rw [jMod_canCook_h5] at hf
    cases hf
  | succ n ih =>
    intro x1 x2 x3 x4 S H locs ls hf hw hl
    rw [jMod_canCook_h5] at hf
    exact jMod_canCook_b5_ok B (jMod_canCook_h5 n) ih x1 x2 x3 x4 S hf hw hl

set_option maxHeartbeats 4000000 in
theorem jMod_canCook_b0_ok (B : XB p s m args meth c A cX7_canCook 5 (some .boolean) RX7) {SF : St} {r : Int32}  (x1 : Int32) (x2 : Int32) (S : St) {H : Heap} {locs : List Loc} {ls : Array Slot} (hf : jMod_canCook x1 x2 S = some (r, SF)) (hw : Xw D 17 (cellM T q) q T ExM A s S H locs) (hl : lv_has ls 5 [(0, .ref (q 0)), (1, .int x1), (2, .int x2)]) : XG p l e ({ frames := 0, cells := 0, slots := 0, locals := 0 }) s m args below meth c D 17 (cellM T q) q T A SF (some (.int r)) H locs 0 ls [] := by
  unfold jMod_canCook at hf
  obtain ⟨hx, hb, hr, hml, hown, hts, hlk, hA⟩ := id B
  refine lv_iconst (v := 1) hx hb dX7_canCook_0 (by decide) ?_
  refine lv_istore_n (lv' := [(3, .int 1), (0, .ref (q 0)), (1, .int x1), (2, .int x2)]) hx hb dX7_canCook_1 rfl hl (by decide) rfl (fun ls hl => ?_)
  refine lv_iconst (v := 0) hx hb dX7_canCook_2 (by decide) ?_
  refine lv_istore (lv' := [(4, .int 0), (3, .int 1), (0, .ref (q 0)), (1, .int x1), (2, .int x2)]) hx hb dX7_canCook_3 hl (by decide) rfl (fun ls hl => ?_)
  exact jMod_canCook_h5_ok B FU x1 x2 1 0 S _ _ _ hf hw (lv_sub hl [2, 3, 4, 1, 0] rfl)

set_option maxHeartbeats 4000000 in
theorem jMod_canCook_ok {x1 : Int32} {x2 : Int32} {S SF : St} {r : Int32} (hf : jMod_canCook x1 x2 S = some (r, SF)) : XMet l D 17 (cellM T q) q T ExM yX7_canCook cX7_canCook 5 (some .boolean) ({ frames := 0, cells := 0, slots := 0, locals := 0 }) [.ref (q 0), .int x1, .int x2] S (some (.int r)) SF := by
  refine x_enter (own := RX7) (by decide +kernel) rfl (Nat.le_of_ble_eq_true rfl) (fun p e s m below meth c A B ls hw hl0 => ?_)
  have hl : lv_has ls 5 [(0, .ref (q 0)), (1, .int x1), (2, .int x2)] := hl0
  exact jMod_canCook_b0_ok B x1 x2 S hf hw hl

set_option maxHeartbeats 4000000 in
theorem jMod_cook_b47_ok (B : XB p s m args meth c A cX7_cook 4 (some .int) RX7) {SF : St} {r : Int32} (K47 : Int32 → Int32 → Int32 → St → Option (Int32 × St)) (hK47 : ∀ (x1 : Int32) (x2 : Int32) (x3 : Int32) (S : St) (H : Heap) (locs : List Loc) (ls : Array Slot), K47 x1 x2 x3 S = some (r, SF) → Xw D 17 (cellM T q) q T ExM A s S H locs → lv_has ls 4 [(0, .ref (q 0)), (1, .int x1), (2, .int x2), (3, .int x3)] → XG p l e ({ frames := 2, cells := 0, slots := 0, locals := 43 }) s m args below meth c D 17 (cellM T q) q T A SF (some (.int r)) H locs 47 ls [])  (x1 : Int32) (x2 : Int32) (x3 : Int32) (S : St) {H : Heap} {locs : List Loc} {ls : Array Slot} (hf : jMod_cook_b47 K47 x1 x2 x3 S = some (r, SF)) (hw : Xw D 17 (cellM T q) q T ExM A s S H locs) (hl : lv_has ls 4 [(0, .ref (q 0)), (1, .int x1), (2, .int x2), (3, .int x3)]) : XG p l e ({ frames := 2, cells := 0, slots := 0, locals := 43 }) s m args below meth c D 17 (cellM T q) q T A SF (some (.int r)) H locs 47 ls [] := by
  unfold jMod_cook_b47 at hf
  obtain ⟨hx, hb, hr, hml, hown, hts, hlk, hA⟩ := id B
  refine lv_iload_n hx hb dX7_cook_47 rfl (lv_at hl 3 rfl) ?_
  refine lv_iconst (v := 5) hx hb dX7_cook_48 (by decide) ?_
  refine lv_icmp_ge (tgt := 81) hx hb dX7_cook_49 (by decide) (fun hc => ?_) (fun hc => ?_)
  · have hf := x_pos hc hf
    refine lv_aload_n hx hb dX7_cook_81 rfl (lv_at hl 0 rfl) ?_
    refine x_get B hw (Tb := TX7) inX7 0 (by decide) rfl rfl 16 (by decide) u706 (fun _ h => h) rfl dX7_cook_82 ?_
    refine lv_bipush (v := 33) hx hb dX7_cook_85 (by decide) ?_
    refine lv_iconst (v := 2) hx hb dX7_cook_87 (by decide) ?_
    refine lv_aload_n hx hb dX7_cook_88 rfl (lv_at hl 0 rfl) ?_
    refine x_get B hw (Tb := TX7) inX7 0 (by decide) rfl rfl 16 (by decide) u706 (fun _ h => h) rfl dX7_cook_89 ?_
    refine lv_bipush (v := 32) hx hb dX7_cook_92 (by decide) ?_
    refine x_iald B hw 9 (by decide) rfl dX7_cook_94 hf (fun v8 hf => ?_)
    refine lv_imul hx hb dX7_cook_95 ?_
    refine lv_iadd hx hb dX7_cook_96 ?_
    refine lv_iload_n hx hb dX7_cook_97 rfl (lv_at hl 1 rfl) ?_
    refine x_iast B hw 9 (by decide) (fun _ _ => rfl) dX7_cook_98 hf (fun S9 H locs hw hf => ?_)
    refine lv_aload_n hx hb dX7_cook_99 rfl (lv_at hl 0 rfl) ?_
    refine x_get B hw (Tb := TX7) inX7 0 (by decide) rfl rfl 16 (by decide) u706 (fun _ h => h) rfl dX7_cook_100 ?_
    refine lv_bipush (v := 33) hx hb dX7_cook_103 (by decide) ?_
    refine lv_iconst (v := 2) hx hb dX7_cook_105 (by decide) ?_
    refine lv_aload_n hx hb dX7_cook_106 rfl (lv_at hl 0 rfl) ?_
    refine x_get B hw (Tb := TX7) inX7 0 (by decide) rfl rfl 16 (by decide) u706 (fun _ h => h) rfl dX7_cook_107 ?_
    refine lv_bipush (v := 32) hx hb dX7_cook_110 (by decide) ?_
    refine x_iald B hw 9 (by decide) rfl dX7_cook_112 hf (fun v10 hf => ?_)
    refine lv_imul hx hb dX7_cook_113 ?_
    refine lv_iadd hx hb dX7_cook_114 ?_
    refine lv_iconst (v := 1) hx hb dX7_cook_115 (by decide) ?_
    refine lv_iadd hx hb dX7_cook_116 ?_
    refine lv_iload_n hx hb dX7_cook_117 rfl (lv_at hl 2 rfl) ?_
    refine x_iast B hw 9 (by decide) (fun _ _ => rfl) dX7_cook_118 hf (fun S11 H locs hw hf => ?_)
    refine lv_aload_n hx hb dX7_cook_119 rfl (lv_at hl 0 rfl) ?_
    refine x_get B hw (Tb := TX7) inX7 0 (by decide) rfl rfl 16 (by decide) u706 (fun _ h => h) rfl dX7_cook_120 ?_
    refine lv_bipush (v := 32) hx hb dX7_cook_123 (by decide) ?_
    refine lv_dup2_11 hx hb dX7_cook_125 rfl rfl ?_
    refine x_iald B hw 9 (by decide) rfl dX7_cook_126 hf (fun v12 hf => ?_)
    refine lv_iconst (v := 1) hx hb dX7_cook_127 (by decide) ?_
    refine lv_iadd hx hb dX7_cook_128 ?_
    refine x_iast B hw 9 (by decide) (fun _ _ => rfl) dX7_cook_129 hf (fun S13 H locs hw hf => ?_)
    refine lv_aload_n hx hb dX7_cook_130 rfl (lv_at hl 0 rfl) ?_
    refine x_get B hw (Tb := TX7) inX7 0 (by decide) rfl rfl 7 (by decide) u697 (fun _ h => h) rfl dX7_cook_131 ?_
    refine lv_iload_n hx hb dX7_cook_134 rfl (lv_at hl 2 rfl) ?_
    refine x_iald B hw 6 (by decide) rfl dX7_cook_135 hf (fun v14 hf => ?_)
    exact x_iret B hw hf dX7_cook_136
  · have hf := x_neg hc hf
    refine lv_aload_n hx hb dX7_cook_52 rfl (lv_at hl 0 rfl) ?_
    refine x_get B hw (Tb := TX7) inX7 0 (by decide) rfl rfl 16 (by decide) u706 (fun _ h => h) rfl dX7_cook_53 ?_
    refine lv_iconst (v := 5) hx hb dX7_cook_56 (by decide) ?_
    refine lv_iload_n hx hb dX7_cook_57 rfl (lv_at hl 1 rfl) ?_
    refine lv_imul hx hb dX7_cook_58 ?_
    refine lv_iload_n hx hb dX7_cook_59 rfl (lv_at hl 3 rfl) ?_
    refine lv_iadd hx hb dX7_cook_60 ?_
    refine lv_dup2_11 hx hb dX7_cook_61 rfl rfl ?_
    refine x_iald B hw 9 (by decide) rfl dX7_cook_62 hf (fun v15 hf => ?_)
    refine lv_aload_n hx hb dX7_cook_63 rfl (lv_at hl 0 rfl) ?_
    refine x_get B hw (Tb := TX7) inX7 0 (by decide) rfl rfl 6 (by decide) u696 (fun _ h => h) rfl dX7_cook_64 ?_
    refine lv_iconst (v := 5) hx hb dX7_cook_67 (by decide) ?_
    refine lv_iload_n hx hb dX7_cook_68 rfl (lv_at hl 2 rfl) ?_
    refine lv_imul hx hb dX7_cook_69 ?_
    refine lv_iload_n hx hb dX7_cook_70 rfl (lv_at hl 3 rfl) ?_
    refine lv_iadd hx hb dX7_cook_71 ?_
    refine x_iald B hw 5 (by decide) rfl dX7_cook_72 hf (fun v16 hf => ?_)
    refine lv_isub hx hb dX7_cook_73 ?_
    refine x_iast B hw 9 (by decide) (fun _ _ => rfl) dX7_cook_74 hf (fun S17 H locs hw hf => ?_)
    refine lv_iinc (v := x3 + 1) (lv' := [(3, .int (x3 + 1)), (0, .ref (q 0)), (1, .int x1), (2, .int x2)]) hx hb dX7_cook_75 hl (k := 3) rfl xi_1 (by decide) rfl (fun ls hl => ?_)
    refine lv_goto (tgt := 47) hx hb dX7_cook_78 (by decide) ?_
    exact hK47 x1 x2 (x3 + 1) S17 _ _ _ hf hw (lv_sub hl [1, 2, 3, 0] rfl)

theorem jMod_cook_h47_ok (B : XB p s m args meth c A cX7_cook 4 (some .int) RX7) {SF : St} {r : Int32} : ∀ (n : Nat) (x1 : Int32) (x2 : Int32) (x3 : Int32) (S : St) (H : Heap) (locs : List Loc) (ls : Array Slot), jMod_cook_h47 n x1 x2 x3 S = some (r, SF) → Xw D 17 (cellM T q) q T ExM A s S H locs → lv_has ls 4 [(0, .ref (q 0)), (1, .int x1), (2, .int x2), (3, .int x3)] → XG p l e ({ frames := 2, cells := 0, slots := 0, locals := 43 }) s m args below meth c D 17 (cellM T q) q T A SF (some (.int r)) H locs 47 ls [] := by
  intro n
  induction n with
  | zero =>
    intro x1 x2 x3 S H locs ls hf hw hl
    rw [jMod_cook_h47] at hf
    cases hf
  | succ n ih =>
    intro x1 x2 x3 S H locs ls hf hw hl
    rw [jMod_cook_h47] at hf
    exact jMod_cook_b47_ok B (jMod_cook_h47 n) ih x1 x2 x3 S hf hw hl

set_option maxHeartbeats 4000000 in
theorem jMod_cook_b0_ok (B : XB p s m args meth c A cX7_cook 4 (some .int) RX7) {SF : St} {r : Int32}  (x1 : Int32) (x2 : Int32) (S : St) {H : Heap} {locs : List Loc} {ls : Array Slot} (hf : jMod_cook x1 x2 S = some (r, SF)) (hw : Xw D 17 (cellM T q) q T ExM A s S H locs) (hl : lv_has ls 4 [(0, .ref (q 0)), (1, .int x1), (2, .int x2)]) : XG p l e ({ frames := 2, cells := 0, slots := 0, locals := 43 }) s m args below meth c D 17 (cellM T q) q T A SF (some (.int r)) H locs 0 ls [] := by
  unfold jMod_cook at hf
  obtain ⟨hx, hb, hr, hml, hown, hts, hlk, hA⟩ := id B
  refine lv_aload_n hx hb dX7_cook_0 rfl (lv_at hl 0 rfl) ?_
  refine lv_iload_n hx hb dX7_cook_1 rfl (lv_at hl 1 rfl) ?_
  obtain ⟨v2, S1, hc, hf⟩ := x_bd_some hf
  refine x_callV B ExM_ok hw 0 (by decide) rfl rfl (As := [.int x1]) (rest := []) (st1 := [.int v2]) (jMod_isHouse_ok hc) u807 u809 u22 u45 u810 hdX7_isHouse rfl ⟨Nat.le_of_ble_eq_true rfl, Nat.le_of_ble_eq_true rfl⟩ ⟨rfl, rfl⟩ hl.1 (Nat.le_of_ble_eq_true rfl) dX7_cook_2 (fun H locs hw => ?_) rfl rfl
  refine lv_if_eq (tgt := 16) hx hb dX7_cook_5 (by decide) (fun hc => ?_) (fun hc => ?_)
  · have hf := x_pos hc hf
    refine lv_iconst (v := (-1)) hx hb dX7_cook_16 (by decide) ?_
    exact x_iret B hw hf dX7_cook_17
  · have hf := x_neg hc hf
    refine lv_aload_n hx hb dX7_cook_8 rfl (lv_at hl 0 rfl) ?_
    refine lv_iload_n hx hb dX7_cook_9 rfl (lv_at hl 2 rfl) ?_
    obtain ⟨v4, S3, hc, hf⟩ := x_bd_some hf
    refine x_callV B ExM_ok hw 0 (by decide) rfl rfl (As := [.int x2]) (rest := []) (st1 := [.int v4]) (jMod_isDish_ok hc) u819 u821 u24 u45 u822 hdX7_isDish rfl ⟨Nat.le_of_ble_eq_true rfl, Nat.le_of_ble_eq_true rfl⟩ ⟨rfl, rfl⟩ hl.1 (Nat.le_of_ble_eq_true rfl) dX7_cook_10 (fun H locs hw => ?_) rfl rfl
    refine lv_if_ne (tgt := 18) hx hb dX7_cook_13 (by decide) (fun hc => ?_) (fun hc => ?_)
    · have hf := x_neg hc hf
      refine lv_aload_n hx hb dX7_cook_18 rfl (lv_at hl 0 rfl) ?_
      refine lv_iload_n hx hb dX7_cook_19 rfl (lv_at hl 1 rfl) ?_
      refine lv_iload_n hx hb dX7_cook_20 rfl (lv_at hl 2 rfl) ?_
      obtain ⟨v6, S5, hc, hf⟩ := x_bd_some hf
      refine x_callV B ExM_ok hw 0 (by decide) rfl rfl (As := [.int x1, .int x2]) (rest := []) (st1 := [.int v6]) (jMod_canCook_ok hc) u831 u833 u26 u45 u834 hdX7_canCook rfl ⟨Nat.le_of_ble_eq_true rfl, Nat.le_of_ble_eq_true rfl⟩ ⟨rfl, rfl⟩ hl.1 (Nat.le_of_ble_eq_true rfl) dX7_cook_21 (fun H locs hw => ?_) rfl rfl
      refine lv_if_ne (tgt := 30) hx hb dX7_cook_24 (by decide) (fun hc => ?_) (fun hc => ?_)
      · have hf := x_neg hc hf
        refine lv_aload_n hx hb dX7_cook_30 rfl (lv_at hl 0 rfl) ?_
        refine x_get B hw (Tb := TX7) inX7 0 (by decide) rfl rfl 16 (by decide) u706 (fun _ h => h) rfl dX7_cook_31 ?_
        refine lv_bipush (v := 32) hx hb dX7_cook_34 (by decide) ?_
        refine x_iald B hw 9 (by decide) rfl dX7_cook_36 hf (fun v7 hf => ?_)
        refine lv_bipush (v := 20) hx hb dX7_cook_37 (by decide) ?_
        refine lv_icmp_ne (tgt := 45) hx hb dX7_cook_39 (by decide) (fun hc => ?_) (fun hc => ?_)
        · have hf := x_neg hc hf
          refine lv_iconst (v := 0) hx hb dX7_cook_45 (by decide) ?_
          refine lv_istore_n (lv' := [(3, .int 0), (0, .ref (q 0)), (1, .int x1), (2, .int x2)]) hx hb dX7_cook_46 rfl hl (by decide) rfl (fun ls hl => ?_)
          exact jMod_cook_h47_ok B FU x1 x2 0 S5 _ _ _ hf hw (lv_sub hl [1, 2, 3, 0] rfl)
        · have hf := x_pos hc hf
          refine lv_bipush (v := (-3)) hx hb dX7_cook_42 (by decide) ?_
          exact x_iret B hw hf dX7_cook_44
      · have hf := x_pos hc hf
        refine lv_bipush (v := (-2)) hx hb dX7_cook_27 (by decide) ?_
        exact x_iret B hw hf dX7_cook_29
    · have hf := x_pos hc hf
      refine lv_iconst (v := (-1)) hx hb dX7_cook_16 (by decide) ?_
      exact x_iret B hw hf dX7_cook_17

set_option maxHeartbeats 4000000 in
theorem jMod_cook_ok {x1 : Int32} {x2 : Int32} {S SF : St} {r : Int32} (hf : jMod_cook x1 x2 S = some (r, SF)) : XMet l D 17 (cellM T q) q T ExM yX7_cook cX7_cook 4 (some .int) ({ frames := 2, cells := 0, slots := 0, locals := 43 }) [.ref (q 0), .int x1, .int x2] S (some (.int r)) SF := by
  refine x_enter (own := RX7) (by decide +kernel) rfl (Nat.le_of_ble_eq_true rfl) (fun p e s m below meth c A B ls hw hl0 => ?_)
  have hl : lv_has ls 4 [(0, .ref (q 0)), (1, .int x1), (2, .int x2)] := hl0
  exact jMod_cook_b0_ok B x1 x2 S hf hw hl
end
