/-! THE LAW: one row a call -/
section LCASES
variable {p : Program} {l : Launch} {e : Env} {s : State} {m : MethodId} {below : List Frame} {meth : Method} {c : Code} {H : Heap} {locs : List Loc} {cells slots : Nat} {Q : State → Prop}
variable {ls : Array Slot} {D : va_G} {T : Nat → ClassId} {q q' : Nat → Nat} {aK aV : Nat → Nat} {S M : St} {b L : Nat} {xs : Nat → Int32} {g : Gh}
abbrev LV (b : Nat) (q q' : Nat → Nat) (n : Nat) : List (Nat × Value) := [(0, .ref b), (1, .ref (q 0)), (2, .ref (q' 0)), (3, .int (nI n))]
set_option maxHeartbeats 4000000 in
set_option maxRecDepth 100000 in
theorem law_type (C : LC p s m meth c b L xs D T q q' aK aV) (W0 : LWS s D T q q' S M H locs) (hr : CR g S) (hm : MR g M) (hw : WG g) {n : Nat} (hn : n + 6 ≤ L) (hl : lv_has ls 4 (LV b q q' n)) (hcs : cells ≤ room_1.cells ∧ slots ≤ room_1.slots)
    (kk : ∀ (g' : Gh) (S' M' : St) (H' : Heap) (locs' : List Loc), CR g' S' → MR g' M' → WG g' → LWS s D T q q' S' M' H' locs' → W p l e room_1 s m #[Value.ref b] below meth c H' locs' cells slots Q (F0 m 1036 ls [])) : W p l e room_1 s m #[Value.ref b] below meth c H locs cells slots Q (F0 m 160 ls []) := by
  obtain ⟨⟨hx, hb, -, hml, hown, hts, -, hA⟩, hX, hbl, hL, -⟩ := id C
  have hbA : ¬ AL s b := Nat.not_le.mpr hbl
  have hin : ∀ k, k < 6 → vp_in (nI n + nI k) L := fun k hk => by rw [nI_add]; exact vp_in_nI (by omega) (by omega)
  refine lv_aload_n hx hb dL_law_160 rfl (lv_at hl 1 rfl) ?_
  refine lv_aload_n hx hb dL_law_161 rfl (lv_at hl 0 rfl) ?_
  refine lv_iload_n hx hb dL_law_162 rfl (lv_at hl 3 rfl) ?_
  refine lv_iconst (v := 1) hx hb dL_law_163 (by decide) ?_
  refine lv_iadd hx hb dL_law_164 ?_
  refine va_sld hx hb hX hbl hbA W0.2.2.2.2 (hin 1 (by omega)) dL_law_165 ?_
  refine lv_i2l (v := Int32.toInt64 (xs (nI n + 1).toNatClampNeg)) hx hb dL_law_166 rfl ?_
  refine lv_bipush (v := 32) hx hb dL_law_167 (by decide) ?_
  refine lv_lshl (v := x_lshl (Int32.toInt64 (xs (nI n + 1).toNatClampNeg)) 32) hx hb dL_law_169 rfl ?_
  refine lv_aload_n hx hb dL_law_170 rfl (lv_at hl 0 rfl) ?_
  refine lv_iload_n hx hb dL_law_171 rfl (lv_at hl 3 rfl) ?_
  refine lv_iconst (v := 2) hx hb dL_law_172 (by decide) ?_
  refine lv_iadd hx hb dL_law_173 ?_
  refine va_sld hx hb hX hbl hbA W0.2.2.2.2 (hin 2 (by omega)) dL_law_174 ?_
  refine lv_i2l (v := Int32.toInt64 (xs (nI n + 2).toNatClampNeg)) hx hb dL_law_175 rfl ?_
  refine lv_ldc2 (v := 4294967295) hx hb hown (hts _ u984) dL_law_176 ?_
  refine lv_land hx hb dL_law_179 ?_
  refine lv_lor hx hb dL_law_180 ?_
  refine lv_aload_n hx hb dL_law_181 rfl (lv_at hl 0 rfl) ?_
  refine lv_iload_n hx hb dL_law_182 rfl (lv_at hl 3 rfl) ?_
  refine lv_iconst (v := 3) hx hb dL_law_183 (by decide) ?_
  refine lv_iadd hx hb dL_law_184 ?_
  refine va_sld hx hb hX hbl hbA W0.2.2.2.2 (hin 3 (by omega)) dL_law_185 ?_
  obtain ⟨S1, e1, h1⟩ := c_type hr hw (((x_lshl (Int32.toInt64 (xs (nI n + 1).toNatClampNeg)) 32) ||| ((Int32.toInt64 (xs (nI n + 2).toNatClampNeg)) &&& 4294967295))) ((xs (nI n + 3).toNatClampNeg))
  refine y_callC C W0 (As := [.long ((x_lshl (Int32.toInt64 (xs (nI n + 1).toNatClampNeg)) 32) ||| ((Int32.toInt64 (xs (nI n + 2).toNatClampNeg)) &&& 4294967295)), .int (xs (nI n + 3).toNatClampNeg)]) (rest := []) (st1 := [.int ((sType g (((x_lshl (Int32.toInt64 (xs (nI n + 1).toNatClampNeg)) 32) ||| ((Int32.toInt64 (xs (nI n + 2).toNatClampNeg)) &&& 4294967295))) ((xs (nI n + 3).toNatClampNeg))).1)]) (jSmoke_type_ok e1) u261 u262 u263 u38 u264 hdX6_type rfl ⟨Nat.le_of_ble_eq_true rfl, Nat.le_of_ble_eq_true rfl⟩ ⟨rfl, rfl⟩ hl.1 (Nat.le_of_ble_eq_true rfl) dL_law_186 hcs (fun H locs W0 => ?_) rfl rfl
  refine lv_aload_n hx hb dL_law_189 rfl (lv_at hl 2 rfl) ?_
  refine lv_aload_n hx hb dL_law_190 rfl (lv_at hl 0 rfl) ?_
  refine lv_iload_n hx hb dL_law_191 rfl (lv_at hl 3 rfl) ?_
  refine lv_iconst (v := 1) hx hb dL_law_192 (by decide) ?_
  refine lv_iadd hx hb dL_law_193 ?_
  refine va_sld hx hb hX hbl hbA W0.2.2.2.2 (hin 1 (by omega)) dL_law_194 ?_
  refine lv_i2l (v := Int32.toInt64 (xs (nI n + 1).toNatClampNeg)) hx hb dL_law_195 rfl ?_
  refine lv_bipush (v := 32) hx hb dL_law_196 (by decide) ?_
  refine lv_lshl (v := x_lshl (Int32.toInt64 (xs (nI n + 1).toNatClampNeg)) 32) hx hb dL_law_198 rfl ?_
  refine lv_aload_n hx hb dL_law_199 rfl (lv_at hl 0 rfl) ?_
  refine lv_iload_n hx hb dL_law_200 rfl (lv_at hl 3 rfl) ?_
  refine lv_iconst (v := 2) hx hb dL_law_201 (by decide) ?_
  refine lv_iadd hx hb dL_law_202 ?_
  refine va_sld hx hb hX hbl hbA W0.2.2.2.2 (hin 2 (by omega)) dL_law_203 ?_
  refine lv_i2l (v := Int32.toInt64 (xs (nI n + 2).toNatClampNeg)) hx hb dL_law_204 rfl ?_
  refine lv_ldc2 (v := 4294967295) hx hb hown (hts _ u984) dL_law_205 ?_
  refine lv_land hx hb dL_law_208 ?_
  refine lv_lor hx hb dL_law_209 ?_
  refine lv_aload_n hx hb dL_law_210 rfl (lv_at hl 0 rfl) ?_
  refine lv_iload_n hx hb dL_law_211 rfl (lv_at hl 3 rfl) ?_
  refine lv_iconst (v := 3) hx hb dL_law_212 (by decide) ?_
  refine lv_iadd hx hb dL_law_213 ?_
  refine va_sld hx hb hX hbl hbA W0.2.2.2.2 (hin 3 (by omega)) dL_law_214 ?_
  obtain ⟨M1, e2, h2⟩ := m_type hm hw (((x_lshl (Int32.toInt64 (xs (nI n + 1).toNatClampNeg)) 32) ||| ((Int32.toInt64 (xs (nI n + 2).toNatClampNeg)) &&& 4294967295))) ((xs (nI n + 3).toNatClampNeg))
  refine y_callM C W0 (As := [.long ((x_lshl (Int32.toInt64 (xs (nI n + 1).toNatClampNeg)) 32) ||| ((Int32.toInt64 (xs (nI n + 2).toNatClampNeg)) &&& 4294967295)), .int (xs (nI n + 3).toNatClampNeg)]) (rest := [.int ((sType g (((x_lshl (Int32.toInt64 (xs (nI n + 1).toNatClampNeg)) 32) ||| ((Int32.toInt64 (xs (nI n + 2).toNatClampNeg)) &&& 4294967295))) ((xs (nI n + 3).toNatClampNeg))).1)]) (st1 := [.int ((sType g (((x_lshl (Int32.toInt64 (xs (nI n + 1).toNatClampNeg)) 32) ||| ((Int32.toInt64 (xs (nI n + 2).toNatClampNeg)) &&& 4294967295))) ((xs (nI n + 3).toNatClampNeg))).1), .int ((sType g (((x_lshl (Int32.toInt64 (xs (nI n + 1).toNatClampNeg)) 32) ||| ((Int32.toInt64 (xs (nI n + 2).toNatClampNeg)) &&& 4294967295))) ((xs (nI n + 3).toNatClampNeg))).1)]) (jMod_type_ok e2) u764 u765 u766 u45 u767 hdX7_type rfl ⟨Nat.le_of_ble_eq_true rfl, Nat.le_of_ble_eq_true rfl⟩ ⟨rfl, rfl⟩ hl.1 (Nat.le_of_ble_eq_true rfl) dL_law_215 hcs (fun H locs W0 => ?_) rfl rfl
  refine lv_icmp_eq (tgt := 1036) hx hb dL_law_218 (by decide) (fun hc => ?_) (fun hc => ?_)
  · exact kk _ _ _ _ _ h1 h2 (w_type hw (((x_lshl (Int32.toInt64 (xs (nI n + 1).toNatClampNeg)) 32) ||| ((Int32.toInt64 (xs (nI n + 2).toNatClampNeg)) &&& 4294967295))) ((xs (nI n + 3).toNatClampNeg))) W0
  · exact absurd rfl hc
set_option maxHeartbeats 4000000 in
set_option maxRecDepth 100000 in
theorem law_clear (C : LC p s m meth c b L xs D T q q' aK aV) (W0 : LWS s D T q q' S M H locs) (hr : CR g S) (hm : MR g M) (hw : WG g) {n : Nat} (hn : n + 6 ≤ L) (hl : lv_has ls 4 (LV b q q' n)) (hcs : cells ≤ room_1.cells ∧ slots ≤ room_1.slots)
    (kk : ∀ (g' : Gh) (S' M' : St) (H' : Heap) (locs' : List Loc), CR g' S' → MR g' M' → WG g' → LWS s D T q q' S' M' H' locs' → W p l e room_1 s m #[Value.ref b] below meth c H' locs' cells slots Q (F0 m 1036 ls [])) : W p l e room_1 s m #[Value.ref b] below meth c H locs cells slots Q (F0 m 223 ls []) := by
  obtain ⟨⟨hx, hb, -, hml, hown, hts, -, hA⟩, hX, hbl, hL, -⟩ := id C
  have hbA : ¬ AL s b := Nat.not_le.mpr hbl
  have hin : ∀ k, k < 6 → vp_in (nI n + nI k) L := fun k hk => by rw [nI_add]; exact vp_in_nI (by omega) (by omega)
  refine lv_aload_n hx hb dL_law_223 rfl (lv_at hl 1 rfl) ?_
  obtain ⟨S1, e1, h1⟩ := c_clear hr 
  refine y_callC C W0 (As := []) (rest := []) (st1 := [.int ((sClear g).1)]) (jSmoke_clear_ok e1) u269 u270 u271 u38 u272 hdX6_clear rfl ⟨Nat.le_of_ble_eq_true rfl, Nat.le_of_ble_eq_true rfl⟩ ⟨rfl, rfl⟩ hl.1 (Nat.le_of_ble_eq_true rfl) dL_law_224 hcs (fun H locs W0 => ?_) rfl rfl
  refine lv_aload_n hx hb dL_law_227 rfl (lv_at hl 2 rfl) ?_
  obtain ⟨M1, e2, h2⟩ := m_clear hm 
  refine y_callM C W0 (As := []) (rest := [.int ((sClear g).1)]) (st1 := [.int ((sClear g).1), .int ((sClear g).1)]) (jMod_clear_ok e2) u772 u773 u774 u45 u775 hdX7_clear rfl ⟨Nat.le_of_ble_eq_true rfl, Nat.le_of_ble_eq_true rfl⟩ ⟨rfl, rfl⟩ hl.1 (Nat.le_of_ble_eq_true rfl) dL_law_228 hcs (fun H locs W0 => ?_) rfl rfl
  refine lv_icmp_eq (tgt := 1036) hx hb dL_law_231 (by decide) (fun hc => ?_) (fun hc => ?_)
  · exact kk _ _ _ _ _ h1 h2 (w_clear hw ) W0
  · exact absurd rfl hc
set_option maxHeartbeats 4000000 in
set_option maxRecDepth 100000 in
theorem law_valley (C : LC p s m meth c b L xs D T q q' aK aV) (W0 : LWS s D T q q' S M H locs) (hr : CR g S) (hm : MR g M) (hw : WG g) {n : Nat} (hn : n + 6 ≤ L) (hl : lv_has ls 4 (LV b q q' n)) (hcs : cells ≤ room_1.cells ∧ slots ≤ room_1.slots)
    (kk : ∀ (g' : Gh) (S' M' : St) (H' : Heap) (locs' : List Loc), CR g' S' → MR g' M' → WG g' → LWS s D T q q' S' M' H' locs' → W p l e room_1 s m #[Value.ref b] below meth c H' locs' cells slots Q (F0 m 1036 ls [])) : W p l e room_1 s m #[Value.ref b] below meth c H locs cells slots Q (F0 m 236 ls []) := by
  obtain ⟨⟨hx, hb, -, hml, hown, hts, -, hA⟩, hX, hbl, hL, -⟩ := id C
  have hbA : ¬ AL s b := Nat.not_le.mpr hbl
  have hin : ∀ k, k < 6 → vp_in (nI n + nI k) L := fun k hk => by rw [nI_add]; exact vp_in_nI (by omega) (by omega)
  refine lv_aload_n hx hb dL_law_236 rfl (lv_at hl 1 rfl) ?_
  obtain ⟨S1, e1, h1⟩ := c_valley hr hw 
  refine y_callC C W0 (As := []) (rest := []) (st1 := [.int ((sValley g).1)]) (jSmoke_valley_ok e1) u273 u274 u275 u38 u276 hdX6_valley rfl ⟨Nat.le_of_ble_eq_true rfl, Nat.le_of_ble_eq_true rfl⟩ ⟨rfl, rfl⟩ hl.1 (Nat.le_of_ble_eq_true rfl) dL_law_237 hcs (fun H locs W0 => ?_) rfl rfl
  refine lv_aload_n hx hb dL_law_240 rfl (lv_at hl 2 rfl) ?_
  obtain ⟨M1, e2, h2⟩ := m_valley hm hw 
  refine y_callM C W0 (As := []) (rest := [.int ((sValley g).1)]) (st1 := [.int ((sValley g).1), .int ((sValley g).1)]) (jMod_valley_ok e2) u776 u777 u778 u45 u779 hdX7_valley rfl ⟨Nat.le_of_ble_eq_true rfl, Nat.le_of_ble_eq_true rfl⟩ ⟨rfl, rfl⟩ hl.1 (Nat.le_of_ble_eq_true rfl) dL_law_241 hcs (fun H locs W0 => ?_) rfl rfl
  refine lv_icmp_eq (tgt := 1036) hx hb dL_law_244 (by decide) (fun hc => ?_) (fun hc => ?_)
  · exact kk _ _ _ _ _ h1 h2 (w_valley hw ) W0
  · exact absurd rfl hc
set_option maxHeartbeats 4000000 in
set_option maxRecDepth 100000 in
theorem law_house (C : LC p s m meth c b L xs D T q q' aK aV) (W0 : LWS s D T q q' S M H locs) (hr : CR g S) (hm : MR g M) (hw : WG g) {n : Nat} (hn : n + 6 ≤ L) (hl : lv_has ls 4 (LV b q q' n)) (hcs : cells ≤ room_1.cells ∧ slots ≤ room_1.slots)
    (kk : ∀ (g' : Gh) (S' M' : St) (H' : Heap) (locs' : List Loc), CR g' S' → MR g' M' → WG g' → LWS s D T q q' S' M' H' locs' → W p l e room_1 s m #[Value.ref b] below meth c H' locs' cells slots Q (F0 m 1036 ls [])) : W p l e room_1 s m #[Value.ref b] below meth c H locs cells slots Q (F0 m 249 ls []) := by
  obtain ⟨⟨hx, hb, -, hml, hown, hts, -, hA⟩, hX, hbl, hL, -⟩ := id C
  have hbA : ¬ AL s b := Nat.not_le.mpr hbl
  have hin : ∀ k, k < 6 → vp_in (nI n + nI k) L := fun k hk => by rw [nI_add]; exact vp_in_nI (by omega) (by omega)
  refine lv_aload_n hx hb dL_law_249 rfl (lv_at hl 1 rfl) ?_
  refine lv_aload_n hx hb dL_law_250 rfl (lv_at hl 0 rfl) ?_
  refine lv_iload_n hx hb dL_law_251 rfl (lv_at hl 3 rfl) ?_
  refine lv_iconst (v := 1) hx hb dL_law_252 (by decide) ?_
  refine lv_iadd hx hb dL_law_253 ?_
  refine va_sld hx hb hX hbl hbA W0.2.2.2.2 (hin 1 (by omega)) dL_law_254 ?_
  refine lv_aload_n hx hb dL_law_255 rfl (lv_at hl 0 rfl) ?_
  refine lv_iload_n hx hb dL_law_256 rfl (lv_at hl 3 rfl) ?_
  refine lv_iconst (v := 2) hx hb dL_law_257 (by decide) ?_
  refine lv_iadd hx hb dL_law_258 ?_
  refine va_sld hx hb hX hbl hbA W0.2.2.2.2 (hin 2 (by omega)) dL_law_259 ?_
  have e1 : jSmoke_house ((xs (nI n + 1).toNatClampNeg)) ((xs (nI n + 2).toNatClampNeg)) S = some ((sHouse g ((xs (nI n + 1).toNatClampNeg)) ((xs (nI n + 2).toNatClampNeg))), S) := c_house hr hw ((xs (nI n + 1).toNatClampNeg)) ((xs (nI n + 2).toNatClampNeg))
  have h1 : CR g S := hr
  refine y_callC C W0 (As := [.int (xs (nI n + 1).toNatClampNeg), .int (xs (nI n + 2).toNatClampNeg)]) (rest := []) (st1 := [.int ((sHouse g ((xs (nI n + 1).toNatClampNeg)) ((xs (nI n + 2).toNatClampNeg))))]) (jSmoke_house_ok e1) u394 u395 u396 u38 u397 hdX6_house rfl ⟨Nat.le_of_ble_eq_true rfl, Nat.le_of_ble_eq_true rfl⟩ ⟨rfl, rfl⟩ hl.1 (Nat.le_of_ble_eq_true rfl) dL_law_260 hcs (fun H locs W0 => ?_) rfl rfl
  refine lv_aload_n hx hb dL_law_263 rfl (lv_at hl 2 rfl) ?_
  refine lv_aload_n hx hb dL_law_264 rfl (lv_at hl 0 rfl) ?_
  refine lv_iload_n hx hb dL_law_265 rfl (lv_at hl 3 rfl) ?_
  refine lv_iconst (v := 1) hx hb dL_law_266 (by decide) ?_
  refine lv_iadd hx hb dL_law_267 ?_
  refine va_sld hx hb hX hbl hbA W0.2.2.2.2 (hin 1 (by omega)) dL_law_268 ?_
  refine lv_aload_n hx hb dL_law_269 rfl (lv_at hl 0 rfl) ?_
  refine lv_iload_n hx hb dL_law_270 rfl (lv_at hl 3 rfl) ?_
  refine lv_iconst (v := 2) hx hb dL_law_271 (by decide) ?_
  refine lv_iadd hx hb dL_law_272 ?_
  refine va_sld hx hb hX hbl hbA W0.2.2.2.2 (hin 2 (by omega)) dL_law_273 ?_
  have e2 : jMod_house ((xs (nI n + 1).toNatClampNeg)) ((xs (nI n + 2).toNatClampNeg)) M = some ((sHouse g ((xs (nI n + 1).toNatClampNeg)) ((xs (nI n + 2).toNatClampNeg))), M) := m_house hm hw ((xs (nI n + 1).toNatClampNeg)) ((xs (nI n + 2).toNatClampNeg))
  have h2 : MR g M := hm
  refine y_callM C W0 (As := [.int (xs (nI n + 1).toNatClampNeg), .int (xs (nI n + 2).toNatClampNeg)]) (rest := [.int ((sHouse g ((xs (nI n + 1).toNatClampNeg)) ((xs (nI n + 2).toNatClampNeg))))]) (st1 := [.int ((sHouse g ((xs (nI n + 1).toNatClampNeg)) ((xs (nI n + 2).toNatClampNeg)))), .int ((sHouse g ((xs (nI n + 1).toNatClampNeg)) ((xs (nI n + 2).toNatClampNeg))))]) (jMod_house_ok e2) u803 u804 u805 u45 u806 hdX7_house rfl ⟨Nat.le_of_ble_eq_true rfl, Nat.le_of_ble_eq_true rfl⟩ ⟨rfl, rfl⟩ hl.1 (Nat.le_of_ble_eq_true rfl) dL_law_274 hcs (fun H locs W0 => ?_) rfl rfl
  refine lv_icmp_eq (tgt := 1036) hx hb dL_law_277 (by decide) (fun hc => ?_) (fun hc => ?_)
  · exact kk _ _ _ _ _ h1 h2 hw W0
  · exact absurd rfl hc
set_option maxHeartbeats 4000000 in
set_option maxRecDepth 100000 in
theorem law_dish (C : LC p s m meth c b L xs D T q q' aK aV) (W0 : LWS s D T q q' S M H locs) (hr : CR g S) (hm : MR g M) (hw : WG g) {n : Nat} (hn : n + 6 ≤ L) (hl : lv_has ls 4 (LV b q q' n)) (hcs : cells ≤ room_1.cells ∧ slots ≤ room_1.slots)
    (kk : ∀ (g' : Gh) (S' M' : St) (H' : Heap) (locs' : List Loc), CR g' S' → MR g' M' → WG g' → LWS s D T q q' S' M' H' locs' → W p l e room_1 s m #[Value.ref b] below meth c H' locs' cells slots Q (F0 m 1036 ls [])) : W p l e room_1 s m #[Value.ref b] below meth c H locs cells slots Q (F0 m 282 ls []) := by
  obtain ⟨⟨hx, hb, -, hml, hown, hts, -, hA⟩, hX, hbl, hL, -⟩ := id C
  have hbA : ¬ AL s b := Nat.not_le.mpr hbl
  have hin : ∀ k, k < 6 → vp_in (nI n + nI k) L := fun k hk => by rw [nI_add]; exact vp_in_nI (by omega) (by omega)
  refine lv_aload_n hx hb dL_law_282 rfl (lv_at hl 1 rfl) ?_
  refine lv_aload_n hx hb dL_law_283 rfl (lv_at hl 0 rfl) ?_
  refine lv_iload_n hx hb dL_law_284 rfl (lv_at hl 3 rfl) ?_
  refine lv_iconst (v := 1) hx hb dL_law_285 (by decide) ?_
  refine lv_iadd hx hb dL_law_286 ?_
  refine va_sld hx hb hX hbl hbA W0.2.2.2.2 (hin 1 (by omega)) dL_law_287 ?_
  refine lv_aload_n hx hb dL_law_288 rfl (lv_at hl 0 rfl) ?_
  refine lv_iload_n hx hb dL_law_289 rfl (lv_at hl 3 rfl) ?_
  refine lv_iconst (v := 2) hx hb dL_law_290 (by decide) ?_
  refine lv_iadd hx hb dL_law_291 ?_
  refine va_sld hx hb hX hbl hbA W0.2.2.2.2 (hin 2 (by omega)) dL_law_292 ?_
  have e1 : jSmoke_dish ((xs (nI n + 1).toNatClampNeg)) ((xs (nI n + 2).toNatClampNeg)) S = some ((sDish g ((xs (nI n + 1).toNatClampNeg)) ((xs (nI n + 2).toNatClampNeg))), S) := c_dish hr hw ((xs (nI n + 1).toNatClampNeg)) ((xs (nI n + 2).toNatClampNeg))
  have h1 : CR g S := hr
  refine y_callC C W0 (As := [.int (xs (nI n + 1).toNatClampNeg), .int (xs (nI n + 2).toNatClampNeg)]) (rest := []) (st1 := [.int ((sDish g ((xs (nI n + 1).toNatClampNeg)) ((xs (nI n + 2).toNatClampNeg))))]) (jSmoke_dish_ok e1) u411 u412 u413 u38 u414 hdX6_dish rfl ⟨Nat.le_of_ble_eq_true rfl, Nat.le_of_ble_eq_true rfl⟩ ⟨rfl, rfl⟩ hl.1 (Nat.le_of_ble_eq_true rfl) dL_law_293 hcs (fun H locs W0 => ?_) rfl rfl
  refine lv_aload_n hx hb dL_law_296 rfl (lv_at hl 2 rfl) ?_
  refine lv_aload_n hx hb dL_law_297 rfl (lv_at hl 0 rfl) ?_
  refine lv_iload_n hx hb dL_law_298 rfl (lv_at hl 3 rfl) ?_
  refine lv_iconst (v := 1) hx hb dL_law_299 (by decide) ?_
  refine lv_iadd hx hb dL_law_300 ?_
  refine va_sld hx hb hX hbl hbA W0.2.2.2.2 (hin 1 (by omega)) dL_law_301 ?_
  refine lv_aload_n hx hb dL_law_302 rfl (lv_at hl 0 rfl) ?_
  refine lv_iload_n hx hb dL_law_303 rfl (lv_at hl 3 rfl) ?_
  refine lv_iconst (v := 2) hx hb dL_law_304 (by decide) ?_
  refine lv_iadd hx hb dL_law_305 ?_
  refine va_sld hx hb hX hbl hbA W0.2.2.2.2 (hin 2 (by omega)) dL_law_306 ?_
  have e2 : jMod_dish ((xs (nI n + 1).toNatClampNeg)) ((xs (nI n + 2).toNatClampNeg)) M = some ((sDish g ((xs (nI n + 1).toNatClampNeg)) ((xs (nI n + 2).toNatClampNeg))), M) := m_dish hm hw ((xs (nI n + 1).toNatClampNeg)) ((xs (nI n + 2).toNatClampNeg))
  have h2 : MR g M := hm
  refine y_callM C W0 (As := [.int (xs (nI n + 1).toNatClampNeg), .int (xs (nI n + 2).toNatClampNeg)]) (rest := [.int ((sDish g ((xs (nI n + 1).toNatClampNeg)) ((xs (nI n + 2).toNatClampNeg))))]) (st1 := [.int ((sDish g ((xs (nI n + 1).toNatClampNeg)) ((xs (nI n + 2).toNatClampNeg)))), .int ((sDish g ((xs (nI n + 1).toNatClampNeg)) ((xs (nI n + 2).toNatClampNeg))))]) (jMod_dish_ok e2) u815 u816 u817 u45 u818 hdX7_dish rfl ⟨Nat.le_of_ble_eq_true rfl, Nat.le_of_ble_eq_true rfl⟩ ⟨rfl, rfl⟩ hl.1 (Nat.le_of_ble_eq_true rfl) dL_law_307 hcs (fun H locs W0 => ?_) rfl rfl
  refine lv_icmp_eq (tgt := 1036) hx hb dL_law_310 (by decide) (fun hc => ?_) (fun hc => ?_)
  · exact kk _ _ _ _ _ h1 h2 hw W0
  · exact absurd rfl hc
set_option maxHeartbeats 4000000 in
set_option maxRecDepth 100000 in
theorem law_cook (C : LC p s m meth c b L xs D T q q' aK aV) (W0 : LWS s D T q q' S M H locs) (hr : CR g S) (hm : MR g M) (hw : WG g) {n : Nat} (hn : n + 6 ≤ L) (hl : lv_has ls 4 (LV b q q' n)) (hcs : cells ≤ room_1.cells ∧ slots ≤ room_1.slots)
    (kk : ∀ (g' : Gh) (S' M' : St) (H' : Heap) (locs' : List Loc), CR g' S' → MR g' M' → WG g' → LWS s D T q q' S' M' H' locs' → W p l e room_1 s m #[Value.ref b] below meth c H' locs' cells slots Q (F0 m 1036 ls [])) : W p l e room_1 s m #[Value.ref b] below meth c H locs cells slots Q (F0 m 315 ls []) := by
  obtain ⟨⟨hx, hb, -, hml, hown, hts, -, hA⟩, hX, hbl, hL, -⟩ := id C
  have hbA : ¬ AL s b := Nat.not_le.mpr hbl
  have hin : ∀ k, k < 6 → vp_in (nI n + nI k) L := fun k hk => by rw [nI_add]; exact vp_in_nI (by omega) (by omega)
  refine lv_aload_n hx hb dL_law_315 rfl (lv_at hl 1 rfl) ?_
  refine lv_aload_n hx hb dL_law_316 rfl (lv_at hl 0 rfl) ?_
  refine lv_iload_n hx hb dL_law_317 rfl (lv_at hl 3 rfl) ?_
  refine lv_iconst (v := 1) hx hb dL_law_318 (by decide) ?_
  refine lv_iadd hx hb dL_law_319 ?_
  refine va_sld hx hb hX hbl hbA W0.2.2.2.2 (hin 1 (by omega)) dL_law_320 ?_
  refine lv_aload_n hx hb dL_law_321 rfl (lv_at hl 0 rfl) ?_
  refine lv_iload_n hx hb dL_law_322 rfl (lv_at hl 3 rfl) ?_
  refine lv_iconst (v := 2) hx hb dL_law_323 (by decide) ?_
  refine lv_iadd hx hb dL_law_324 ?_
  refine va_sld hx hb hX hbl hbA W0.2.2.2.2 (hin 2 (by omega)) dL_law_325 ?_
  obtain ⟨S1, e1, h1⟩ := c_cook hr hw ((xs (nI n + 1).toNatClampNeg)) ((xs (nI n + 2).toNatClampNeg))
  refine y_callC C W0 (As := [.int (xs (nI n + 1).toNatClampNeg), .int (xs (nI n + 2).toNatClampNeg)]) (rest := []) (st1 := [.int ((sCook g ((xs (nI n + 1).toNatClampNeg)) ((xs (nI n + 2).toNatClampNeg))).1)]) (jSmoke_cook_ok e1) u423 u424 u425 u38 u426 hdX6_cook rfl ⟨Nat.le_of_ble_eq_true rfl, Nat.le_of_ble_eq_true rfl⟩ ⟨rfl, rfl⟩ hl.1 (Nat.le_of_ble_eq_true rfl) dL_law_326 hcs (fun H locs W0 => ?_) rfl rfl
  refine lv_aload_n hx hb dL_law_329 rfl (lv_at hl 2 rfl) ?_
  refine lv_aload_n hx hb dL_law_330 rfl (lv_at hl 0 rfl) ?_
  refine lv_iload_n hx hb dL_law_331 rfl (lv_at hl 3 rfl) ?_
  refine lv_iconst (v := 1) hx hb dL_law_332 (by decide) ?_
  refine lv_iadd hx hb dL_law_333 ?_
  refine va_sld hx hb hX hbl hbA W0.2.2.2.2 (hin 1 (by omega)) dL_law_334 ?_
  refine lv_aload_n hx hb dL_law_335 rfl (lv_at hl 0 rfl) ?_
  refine lv_iload_n hx hb dL_law_336 rfl (lv_at hl 3 rfl) ?_
  refine lv_iconst (v := 2) hx hb dL_law_337 (by decide) ?_
  refine lv_iadd hx hb dL_law_338 ?_
  refine va_sld hx hb hX hbl hbA W0.2.2.2.2 (hin 2 (by omega)) dL_law_339 ?_
  obtain ⟨M1, e2, h2⟩ := m_cook hm hw ((xs (nI n + 1).toNatClampNeg)) ((xs (nI n + 2).toNatClampNeg))
  refine y_callM C W0 (As := [.int (xs (nI n + 1).toNatClampNeg), .int (xs (nI n + 2).toNatClampNeg)]) (rest := [.int ((sCook g ((xs (nI n + 1).toNatClampNeg)) ((xs (nI n + 2).toNatClampNeg))).1)]) (st1 := [.int ((sCook g ((xs (nI n + 1).toNatClampNeg)) ((xs (nI n + 2).toNatClampNeg))).1), .int ((sCook g ((xs (nI n + 1).toNatClampNeg)) ((xs (nI n + 2).toNatClampNeg))).1)]) (jMod_cook_ok e2) u827 u828 u829 u45 u830 hdX7_cook rfl ⟨Nat.le_of_ble_eq_true rfl, Nat.le_of_ble_eq_true rfl⟩ ⟨rfl, rfl⟩ hl.1 (Nat.le_of_ble_eq_true rfl) dL_law_340 hcs (fun H locs W0 => ?_) rfl rfl
  refine lv_icmp_eq (tgt := 1036) hx hb dL_law_343 (by decide) (fun hc => ?_) (fun hc => ?_)
  · exact kk _ _ _ _ _ h1 h2 (w_cook hw ((xs (nI n + 1).toNatClampNeg)) ((xs (nI n + 2).toNatClampNeg))) W0
  · exact absurd rfl hc
set_option maxHeartbeats 4000000 in
set_option maxRecDepth 100000 in
theorem law_undo (C : LC p s m meth c b L xs D T q q' aK aV) (W0 : LWS s D T q q' S M H locs) (hr : CR g S) (hm : MR g M) (hw : WG g) {n : Nat} (hn : n + 6 ≤ L) (hl : lv_has ls 4 (LV b q q' n)) (hcs : cells ≤ room_1.cells ∧ slots ≤ room_1.slots)
    (kk : ∀ (g' : Gh) (S' M' : St) (H' : Heap) (locs' : List Loc), CR g' S' → MR g' M' → WG g' → LWS s D T q q' S' M' H' locs' → W p l e room_1 s m #[Value.ref b] below meth c H' locs' cells slots Q (F0 m 1036 ls [])) : W p l e room_1 s m #[Value.ref b] below meth c H locs cells slots Q (F0 m 348 ls []) := by
  obtain ⟨⟨hx, hb, -, hml, hown, hts, -, hA⟩, hX, hbl, hL, -⟩ := id C
  have hbA : ¬ AL s b := Nat.not_le.mpr hbl
  have hin : ∀ k, k < 6 → vp_in (nI n + nI k) L := fun k hk => by rw [nI_add]; exact vp_in_nI (by omega) (by omega)
  refine lv_aload_n hx hb dL_law_348 rfl (lv_at hl 1 rfl) ?_
  obtain ⟨S1, e1, h1⟩ := c_undo hr hw 
  refine y_callC C W0 (As := []) (rest := []) (st1 := [.int ((sUndo g).1)]) (jSmoke_undo_ok e1) u448 u449 u450 u38 u451 hdX6_undo rfl ⟨Nat.le_of_ble_eq_true rfl, Nat.le_of_ble_eq_true rfl⟩ ⟨rfl, rfl⟩ hl.1 (Nat.le_of_ble_eq_true rfl) dL_law_349 hcs (fun H locs W0 => ?_) rfl rfl
  refine lv_aload_n hx hb dL_law_352 rfl (lv_at hl 2 rfl) ?_
  obtain ⟨M1, e2, h2⟩ := m_undo hm hw 
  refine y_callM C W0 (As := []) (rest := [.int ((sUndo g).1)]) (st1 := [.int ((sUndo g).1), .int ((sUndo g).1)]) (jMod_undo_ok e2) u835 u836 u837 u45 u838 hdX7_undo rfl ⟨Nat.le_of_ble_eq_true rfl, Nat.le_of_ble_eq_true rfl⟩ ⟨rfl, rfl⟩ hl.1 (Nat.le_of_ble_eq_true rfl) dL_law_353 hcs (fun H locs W0 => ?_) rfl rfl
  refine lv_icmp_eq (tgt := 1036) hx hb dL_law_356 (by decide) (fun hc => ?_) (fun hc => ?_)
  · exact kk _ _ _ _ _ h1 h2 (w_undo hw ) W0
  · exact absurd rfl hc
set_option maxHeartbeats 4000000 in
set_option maxRecDepth 100000 in
theorem law_gives (C : LC p s m meth c b L xs D T q q' aK aV) (W0 : LWS s D T q q' S M H locs) (hr : CR g S) (hm : MR g M) (hw : WG g) {n : Nat} (hn : n + 6 ≤ L) (hl : lv_has ls 4 (LV b q q' n)) (hcs : cells ≤ room_1.cells ∧ slots ≤ room_1.slots)
    (kk : ∀ (g' : Gh) (S' M' : St) (H' : Heap) (locs' : List Loc), CR g' S' → MR g' M' → WG g' → LWS s D T q q' S' M' H' locs' → W p l e room_1 s m #[Value.ref b] below meth c H' locs' cells slots Q (F0 m 1036 ls [])) : W p l e room_1 s m #[Value.ref b] below meth c H locs cells slots Q (F0 m 361 ls []) := by
  obtain ⟨⟨hx, hb, -, hml, hown, hts, -, hA⟩, hX, hbl, hL, -⟩ := id C
  have hbA : ¬ AL s b := Nat.not_le.mpr hbl
  have hin : ∀ k, k < 6 → vp_in (nI n + nI k) L := fun k hk => by rw [nI_add]; exact vp_in_nI (by omega) (by omega)
  refine lv_aload_n hx hb dL_law_361 rfl (lv_at hl 1 rfl) ?_
  refine lv_aload_n hx hb dL_law_362 rfl (lv_at hl 0 rfl) ?_
  refine lv_iload_n hx hb dL_law_363 rfl (lv_at hl 3 rfl) ?_
  refine lv_iconst (v := 1) hx hb dL_law_364 (by decide) ?_
  refine lv_iadd hx hb dL_law_365 ?_
  refine va_sld hx hb hX hbl hbA W0.2.2.2.2 (hin 1 (by omega)) dL_law_366 ?_
  refine lv_aload_n hx hb dL_law_367 rfl (lv_at hl 0 rfl) ?_
  refine lv_iload_n hx hb dL_law_368 rfl (lv_at hl 3 rfl) ?_
  refine lv_iconst (v := 2) hx hb dL_law_369 (by decide) ?_
  refine lv_iadd hx hb dL_law_370 ?_
  refine va_sld hx hb hX hbl hbA W0.2.2.2.2 (hin 2 (by omega)) dL_law_371 ?_
  refine lv_aload_n hx hb dL_law_372 rfl (lv_at hl 0 rfl) ?_
  refine lv_iload_n hx hb dL_law_373 rfl (lv_at hl 3 rfl) ?_
  refine lv_iconst (v := 3) hx hb dL_law_374 (by decide) ?_
  refine lv_iadd hx hb dL_law_375 ?_
  refine va_sld hx hb hX hbl hbA W0.2.2.2.2 (hin 3 (by omega)) dL_law_376 ?_
  refine lv_aload_n hx hb dL_law_377 rfl (lv_at hl 0 rfl) ?_
  refine lv_iload_n hx hb dL_law_378 rfl (lv_at hl 3 rfl) ?_
  refine lv_iconst (v := 4) hx hb dL_law_379 (by decide) ?_
  refine lv_iadd hx hb dL_law_380 ?_
  refine va_sld hx hb hX hbl hbA W0.2.2.2.2 (hin 4 (by omega)) dL_law_381 ?_
  obtain ⟨S1, e1, h1⟩ := c_gives hr hw ((xs (nI n + 1).toNatClampNeg)) ((xs (nI n + 2).toNatClampNeg)) ((xs (nI n + 3).toNatClampNeg)) ((xs (nI n + 4).toNatClampNeg))
  refine y_callC C W0 (As := [.int (xs (nI n + 1).toNatClampNeg), .int (xs (nI n + 2).toNatClampNeg), .int (xs (nI n + 3).toNatClampNeg), .int (xs (nI n + 4).toNatClampNeg)]) (rest := []) (st1 := [.int ((sGives g ((xs (nI n + 1).toNatClampNeg)) ((xs (nI n + 2).toNatClampNeg)) ((xs (nI n + 3).toNatClampNeg)) ((xs (nI n + 4).toNatClampNeg))).1)]) (jSmoke_gives_ok e1) u455 u456 u457 u38 u458 hdX6_gives rfl ⟨Nat.le_of_ble_eq_true rfl, Nat.le_of_ble_eq_true rfl⟩ ⟨rfl, rfl⟩ hl.1 (Nat.le_of_ble_eq_true rfl) dL_law_382 hcs (fun H locs W0 => ?_) rfl rfl
  refine lv_aload_n hx hb dL_law_385 rfl (lv_at hl 2 rfl) ?_
  refine lv_aload_n hx hb dL_law_386 rfl (lv_at hl 0 rfl) ?_
  refine lv_iload_n hx hb dL_law_387 rfl (lv_at hl 3 rfl) ?_
  refine lv_iconst (v := 1) hx hb dL_law_388 (by decide) ?_
  refine lv_iadd hx hb dL_law_389 ?_
  refine va_sld hx hb hX hbl hbA W0.2.2.2.2 (hin 1 (by omega)) dL_law_390 ?_
  refine lv_aload_n hx hb dL_law_391 rfl (lv_at hl 0 rfl) ?_
  refine lv_iload_n hx hb dL_law_392 rfl (lv_at hl 3 rfl) ?_
  refine lv_iconst (v := 2) hx hb dL_law_393 (by decide) ?_
  refine lv_iadd hx hb dL_law_394 ?_
  refine va_sld hx hb hX hbl hbA W0.2.2.2.2 (hin 2 (by omega)) dL_law_395 ?_
  refine lv_aload_n hx hb dL_law_396 rfl (lv_at hl 0 rfl) ?_
  refine lv_iload_n hx hb dL_law_397 rfl (lv_at hl 3 rfl) ?_
  refine lv_iconst (v := 3) hx hb dL_law_398 (by decide) ?_
  refine lv_iadd hx hb dL_law_399 ?_
  refine va_sld hx hb hX hbl hbA W0.2.2.2.2 (hin 3 (by omega)) dL_law_400 ?_
  refine lv_aload_n hx hb dL_law_401 rfl (lv_at hl 0 rfl) ?_
  refine lv_iload_n hx hb dL_law_402 rfl (lv_at hl 3 rfl) ?_
  refine lv_iconst (v := 4) hx hb dL_law_403 (by decide) ?_
  refine lv_iadd hx hb dL_law_404 ?_
  refine va_sld hx hb hX hbl hbA W0.2.2.2.2 (hin 4 (by omega)) dL_law_405 ?_
  obtain ⟨M1, e2, h2⟩ := m_gives hm hw ((xs (nI n + 1).toNatClampNeg)) ((xs (nI n + 2).toNatClampNeg)) ((xs (nI n + 3).toNatClampNeg)) ((xs (nI n + 4).toNatClampNeg))
  refine y_callM C W0 (As := [.int (xs (nI n + 1).toNatClampNeg), .int (xs (nI n + 2).toNatClampNeg), .int (xs (nI n + 3).toNatClampNeg), .int (xs (nI n + 4).toNatClampNeg)]) (rest := [.int ((sGives g ((xs (nI n + 1).toNatClampNeg)) ((xs (nI n + 2).toNatClampNeg)) ((xs (nI n + 3).toNatClampNeg)) ((xs (nI n + 4).toNatClampNeg))).1)]) (st1 := [.int ((sGives g ((xs (nI n + 1).toNatClampNeg)) ((xs (nI n + 2).toNatClampNeg)) ((xs (nI n + 3).toNatClampNeg)) ((xs (nI n + 4).toNatClampNeg))).1), .int ((sGives g ((xs (nI n + 1).toNatClampNeg)) ((xs (nI n + 2).toNatClampNeg)) ((xs (nI n + 3).toNatClampNeg)) ((xs (nI n + 4).toNatClampNeg))).1)]) (jMod_gives_ok e2) u839 u840 u841 u45 u842 hdX7_gives rfl ⟨Nat.le_of_ble_eq_true rfl, Nat.le_of_ble_eq_true rfl⟩ ⟨rfl, rfl⟩ hl.1 (Nat.le_of_ble_eq_true rfl) dL_law_406 hcs (fun H locs W0 => ?_) rfl rfl
  refine lv_icmp_eq (tgt := 1036) hx hb dL_law_409 (by decide) (fun hc => ?_) (fun hc => ?_)
  · exact kk _ _ _ _ _ h1 h2 (w_gives hw ((xs (nI n + 1).toNatClampNeg)) ((xs (nI n + 2).toNatClampNeg)) ((xs (nI n + 3).toNatClampNeg)) ((xs (nI n + 4).toNatClampNeg))) W0
  · exact absurd rfl hc
set_option maxHeartbeats 4000000 in
set_option maxRecDepth 100000 in
theorem law_burns (C : LC p s m meth c b L xs D T q q' aK aV) (W0 : LWS s D T q q' S M H locs) (hr : CR g S) (hm : MR g M) (hw : WG g) {n : Nat} (hn : n + 6 ≤ L) (hl : lv_has ls 4 (LV b q q' n)) (hcs : cells ≤ room_1.cells ∧ slots ≤ room_1.slots)
    (kk : ∀ (g' : Gh) (S' M' : St) (H' : Heap) (locs' : List Loc), CR g' S' → MR g' M' → WG g' → LWS s D T q q' S' M' H' locs' → W p l e room_1 s m #[Value.ref b] below meth c H' locs' cells slots Q (F0 m 1036 ls [])) : W p l e room_1 s m #[Value.ref b] below meth c H locs cells slots Q (F0 m 414 ls []) := by
  obtain ⟨⟨hx, hb, -, hml, hown, hts, -, hA⟩, hX, hbl, hL, -⟩ := id C
  have hbA : ¬ AL s b := Nat.not_le.mpr hbl
  have hin : ∀ k, k < 6 → vp_in (nI n + nI k) L := fun k hk => by rw [nI_add]; exact vp_in_nI (by omega) (by omega)
  refine lv_aload_n hx hb dL_law_414 rfl (lv_at hl 1 rfl) ?_
  refine lv_aload_n hx hb dL_law_415 rfl (lv_at hl 0 rfl) ?_
  refine lv_iload_n hx hb dL_law_416 rfl (lv_at hl 3 rfl) ?_
  refine lv_iconst (v := 1) hx hb dL_law_417 (by decide) ?_
  refine lv_iadd hx hb dL_law_418 ?_
  refine va_sld hx hb hX hbl hbA W0.2.2.2.2 (hin 1 (by omega)) dL_law_419 ?_
  obtain ⟨S1, e1, h1⟩ := c_burns hr hw ((xs (nI n + 1).toNatClampNeg))
  refine y_callC C W0 (As := [.int (xs (nI n + 1).toNatClampNeg)]) (rest := []) (st1 := [.int ((sBurns g ((xs (nI n + 1).toNatClampNeg))).1)]) (jSmoke_burns_ok e1) u459 u460 u461 u38 u462 hdX6_burns rfl ⟨Nat.le_of_ble_eq_true rfl, Nat.le_of_ble_eq_true rfl⟩ ⟨rfl, rfl⟩ hl.1 (Nat.le_of_ble_eq_true rfl) dL_law_420 hcs (fun H locs W0 => ?_) rfl rfl
  refine lv_aload_n hx hb dL_law_423 rfl (lv_at hl 2 rfl) ?_
  refine lv_aload_n hx hb dL_law_424 rfl (lv_at hl 0 rfl) ?_
  refine lv_iload_n hx hb dL_law_425 rfl (lv_at hl 3 rfl) ?_
  refine lv_iconst (v := 1) hx hb dL_law_426 (by decide) ?_
  refine lv_iadd hx hb dL_law_427 ?_
  refine va_sld hx hb hX hbl hbA W0.2.2.2.2 (hin 1 (by omega)) dL_law_428 ?_
  obtain ⟨M1, e2, h2⟩ := m_burns hm hw ((xs (nI n + 1).toNatClampNeg))
  refine y_callM C W0 (As := [.int (xs (nI n + 1).toNatClampNeg)]) (rest := [.int ((sBurns g ((xs (nI n + 1).toNatClampNeg))).1)]) (st1 := [.int ((sBurns g ((xs (nI n + 1).toNatClampNeg))).1), .int ((sBurns g ((xs (nI n + 1).toNatClampNeg))).1)]) (jMod_burns_ok e2) u843 u844 u845 u45 u846 hdX7_burns rfl ⟨Nat.le_of_ble_eq_true rfl, Nat.le_of_ble_eq_true rfl⟩ ⟨rfl, rfl⟩ hl.1 (Nat.le_of_ble_eq_true rfl) dL_law_429 hcs (fun H locs W0 => ?_) rfl rfl
  refine lv_icmp_eq (tgt := 1036) hx hb dL_law_432 (by decide) (fun hc => ?_) (fun hc => ?_)
  · exact kk _ _ _ _ _ h1 h2 (w_burns hw ((xs (nI n + 1).toNatClampNeg))) W0
  · exact absurd rfl hc
set_option maxHeartbeats 4000000 in
set_option maxRecDepth 100000 in
theorem law_plume (C : LC p s m meth c b L xs D T q q' aK aV) (W0 : LWS s D T q q' S M H locs) (hr : CR g S) (hm : MR g M) (hw : WG g) {n : Nat} (hn : n + 6 ≤ L) (hl : lv_has ls 4 (LV b q q' n)) (hcs : cells ≤ room_1.cells ∧ slots ≤ room_1.slots)
    (kk : ∀ (g' : Gh) (S' M' : St) (H' : Heap) (locs' : List Loc), CR g' S' → MR g' M' → WG g' → LWS s D T q q' S' M' H' locs' → W p l e room_1 s m #[Value.ref b] below meth c H' locs' cells slots Q (F0 m 1036 ls [])) : W p l e room_1 s m #[Value.ref b] below meth c H locs cells slots Q (F0 m 437 ls []) := by
  obtain ⟨⟨hx, hb, -, hml, hown, hts, -, hA⟩, hX, hbl, hL, -⟩ := id C
  have hbA : ¬ AL s b := Nat.not_le.mpr hbl
  have hin : ∀ k, k < 6 → vp_in (nI n + nI k) L := fun k hk => by rw [nI_add]; exact vp_in_nI (by omega) (by omega)
  refine lv_aload_n hx hb dL_law_437 rfl (lv_at hl 1 rfl) ?_
  refine lv_aload_n hx hb dL_law_438 rfl (lv_at hl 0 rfl) ?_
  refine lv_iload_n hx hb dL_law_439 rfl (lv_at hl 3 rfl) ?_
  refine lv_iconst (v := 1) hx hb dL_law_440 (by decide) ?_
  refine lv_iadd hx hb dL_law_441 ?_
  refine va_sld hx hb hX hbl hbA W0.2.2.2.2 (hin 1 (by omega)) dL_law_442 ?_
  refine lv_aload_n hx hb dL_law_443 rfl (lv_at hl 0 rfl) ?_
  refine lv_iload_n hx hb dL_law_444 rfl (lv_at hl 3 rfl) ?_
  refine lv_iconst (v := 2) hx hb dL_law_445 (by decide) ?_
  refine lv_iadd hx hb dL_law_446 ?_
  refine va_sld hx hb hX hbl hbA W0.2.2.2.2 (hin 2 (by omega)) dL_law_447 ?_
  have e1 : jSmoke_plume ((xs (nI n + 1).toNatClampNeg)) ((xs (nI n + 2).toNatClampNeg)) S = some ((sPlume g ((xs (nI n + 1).toNatClampNeg)) ((xs (nI n + 2).toNatClampNeg))), S) := c_plume hr hw ((xs (nI n + 1).toNatClampNeg)) ((xs (nI n + 2).toNatClampNeg))
  have h1 : CR g S := hr
  refine y_callC C W0 (As := [.int (xs (nI n + 1).toNatClampNeg), .int (xs (nI n + 2).toNatClampNeg)]) (rest := []) (st1 := [.int ((sPlume g ((xs (nI n + 1).toNatClampNeg)) ((xs (nI n + 2).toNatClampNeg))))]) (jSmoke_plume_ok e1) u463 u464 u465 u38 u466 hdX6_plume rfl ⟨Nat.le_of_ble_eq_true rfl, Nat.le_of_ble_eq_true rfl⟩ ⟨rfl, rfl⟩ hl.1 (Nat.le_of_ble_eq_true rfl) dL_law_448 hcs (fun H locs W0 => ?_) rfl rfl
  refine lv_aload_n hx hb dL_law_451 rfl (lv_at hl 2 rfl) ?_
  refine lv_aload_n hx hb dL_law_452 rfl (lv_at hl 0 rfl) ?_
  refine lv_iload_n hx hb dL_law_453 rfl (lv_at hl 3 rfl) ?_
  refine lv_iconst (v := 1) hx hb dL_law_454 (by decide) ?_
  refine lv_iadd hx hb dL_law_455 ?_
  refine va_sld hx hb hX hbl hbA W0.2.2.2.2 (hin 1 (by omega)) dL_law_456 ?_
  refine lv_aload_n hx hb dL_law_457 rfl (lv_at hl 0 rfl) ?_
  refine lv_iload_n hx hb dL_law_458 rfl (lv_at hl 3 rfl) ?_
  refine lv_iconst (v := 2) hx hb dL_law_459 (by decide) ?_
  refine lv_iadd hx hb dL_law_460 ?_
  refine va_sld hx hb hX hbl hbA W0.2.2.2.2 (hin 2 (by omega)) dL_law_461 ?_
  have e2 : jMod_plume ((xs (nI n + 1).toNatClampNeg)) ((xs (nI n + 2).toNatClampNeg)) M = some ((sPlume g ((xs (nI n + 1).toNatClampNeg)) ((xs (nI n + 2).toNatClampNeg))), M) := m_plume hm hw ((xs (nI n + 1).toNatClampNeg)) ((xs (nI n + 2).toNatClampNeg))
  have h2 : MR g M := hm
  refine y_callM C W0 (As := [.int (xs (nI n + 1).toNatClampNeg), .int (xs (nI n + 2).toNatClampNeg)]) (rest := [.int ((sPlume g ((xs (nI n + 1).toNatClampNeg)) ((xs (nI n + 2).toNatClampNeg))))]) (st1 := [.int ((sPlume g ((xs (nI n + 1).toNatClampNeg)) ((xs (nI n + 2).toNatClampNeg)))), .int ((sPlume g ((xs (nI n + 1).toNatClampNeg)) ((xs (nI n + 2).toNatClampNeg))))]) (jMod_plume_ok e2) u847 u848 u849 u45 u850 hdX7_plume rfl ⟨Nat.le_of_ble_eq_true rfl, Nat.le_of_ble_eq_true rfl⟩ ⟨rfl, rfl⟩ hl.1 (Nat.le_of_ble_eq_true rfl) dL_law_462 hcs (fun H locs W0 => ?_) rfl rfl
  refine lv_icmp_eq (tgt := 1036) hx hb dL_law_465 (by decide) (fun hc => ?_) (fun hc => ?_)
  · exact kk _ _ _ _ _ h1 h2 hw W0
  · exact absurd rfl hc
set_option maxHeartbeats 4000000 in
set_option maxRecDepth 100000 in
theorem law_fog (C : LC p s m meth c b L xs D T q q' aK aV) (W0 : LWS s D T q q' S M H locs) (hr : CR g S) (hm : MR g M) (hw : WG g) {n : Nat} (hn : n + 6 ≤ L) (hl : lv_has ls 4 (LV b q q' n)) (hcs : cells ≤ room_1.cells ∧ slots ≤ room_1.slots)
    (kk : ∀ (g' : Gh) (S' M' : St) (H' : Heap) (locs' : List Loc), CR g' S' → MR g' M' → WG g' → LWS s D T q q' S' M' H' locs' → W p l e room_1 s m #[Value.ref b] below meth c H' locs' cells slots Q (F0 m 1036 ls [])) : W p l e room_1 s m #[Value.ref b] below meth c H locs cells slots Q (F0 m 470 ls []) := by
  obtain ⟨⟨hx, hb, -, hml, hown, hts, -, hA⟩, hX, hbl, hL, -⟩ := id C
  have hbA : ¬ AL s b := Nat.not_le.mpr hbl
  have hin : ∀ k, k < 6 → vp_in (nI n + nI k) L := fun k hk => by rw [nI_add]; exact vp_in_nI (by omega) (by omega)
  refine lv_aload_n hx hb dL_law_470 rfl (lv_at hl 1 rfl) ?_
  refine lv_aload_n hx hb dL_law_471 rfl (lv_at hl 0 rfl) ?_
  refine lv_iload_n hx hb dL_law_472 rfl (lv_at hl 3 rfl) ?_
  refine lv_iconst (v := 1) hx hb dL_law_473 (by decide) ?_
  refine lv_iadd hx hb dL_law_474 ?_
  refine va_sld hx hb hX hbl hbA W0.2.2.2.2 (hin 1 (by omega)) dL_law_475 ?_
  obtain ⟨S1, e1, h1⟩ := c_fog hr ((xs (nI n + 1).toNatClampNeg))
  refine y_callC C W0 (As := [.int (xs (nI n + 1).toNatClampNeg)]) (rest := []) (st1 := [.int ((sFog g ((xs (nI n + 1).toNatClampNeg))).1)]) (jSmoke_fog_ok e1) u467 u468 u469 u38 u470 hdX6_fog rfl ⟨Nat.le_of_ble_eq_true rfl, Nat.le_of_ble_eq_true rfl⟩ ⟨rfl, rfl⟩ hl.1 (Nat.le_of_ble_eq_true rfl) dL_law_476 hcs (fun H locs W0 => ?_) rfl rfl
  refine lv_aload_n hx hb dL_law_479 rfl (lv_at hl 2 rfl) ?_
  refine lv_aload_n hx hb dL_law_480 rfl (lv_at hl 0 rfl) ?_
  refine lv_iload_n hx hb dL_law_481 rfl (lv_at hl 3 rfl) ?_
  refine lv_iconst (v := 1) hx hb dL_law_482 (by decide) ?_
  refine lv_iadd hx hb dL_law_483 ?_
  refine va_sld hx hb hX hbl hbA W0.2.2.2.2 (hin 1 (by omega)) dL_law_484 ?_
  obtain ⟨M1, e2, h2⟩ := m_fog hm hw ((xs (nI n + 1).toNatClampNeg))
  refine y_callM C W0 (As := [.int (xs (nI n + 1).toNatClampNeg)]) (rest := [.int ((sFog g ((xs (nI n + 1).toNatClampNeg))).1)]) (st1 := [.int ((sFog g ((xs (nI n + 1).toNatClampNeg))).1), .int ((sFog g ((xs (nI n + 1).toNatClampNeg))).1)]) (jMod_fog_ok e2) u851 u852 u853 u45 u854 hdX7_fog rfl ⟨Nat.le_of_ble_eq_true rfl, Nat.le_of_ble_eq_true rfl⟩ ⟨rfl, rfl⟩ hl.1 (Nat.le_of_ble_eq_true rfl) dL_law_485 hcs (fun H locs W0 => ?_) rfl rfl
  refine lv_icmp_eq (tgt := 1036) hx hb dL_law_488 (by decide) (fun hc => ?_) (fun hc => ?_)
  · exact kk _ _ _ _ _ h1 h2 (w_fog hw ((xs (nI n + 1).toNatClampNeg))) W0
  · exact absurd rfl hc
set_option maxHeartbeats 4000000 in
set_option maxRecDepth 100000 in
theorem law_says (C : LC p s m meth c b L xs D T q q' aK aV) (W0 : LWS s D T q q' S M H locs) (hr : CR g S) (hm : MR g M) (hw : WG g) {n : Nat} (hn : n + 6 ≤ L) (hl : lv_has ls 4 (LV b q q' n)) (hcs : cells ≤ room_1.cells ∧ slots ≤ room_1.slots)
    (kk : ∀ (g' : Gh) (S' M' : St) (H' : Heap) (locs' : List Loc), CR g' S' → MR g' M' → WG g' → LWS s D T q q' S' M' H' locs' → W p l e room_1 s m #[Value.ref b] below meth c H' locs' cells slots Q (F0 m 1036 ls [])) : W p l e room_1 s m #[Value.ref b] below meth c H locs cells slots Q (F0 m 493 ls []) := by
  obtain ⟨⟨hx, hb, -, hml, hown, hts, -, hA⟩, hX, hbl, hL, -⟩ := id C
  have hbA : ¬ AL s b := Nat.not_le.mpr hbl
  have hin : ∀ k, k < 6 → vp_in (nI n + nI k) L := fun k hk => by rw [nI_add]; exact vp_in_nI (by omega) (by omega)
  refine lv_aload_n hx hb dL_law_493 rfl (lv_at hl 1 rfl) ?_
  refine lv_aload_n hx hb dL_law_494 rfl (lv_at hl 0 rfl) ?_
  refine lv_iload_n hx hb dL_law_495 rfl (lv_at hl 3 rfl) ?_
  refine lv_iconst (v := 1) hx hb dL_law_496 (by decide) ?_
  refine lv_iadd hx hb dL_law_497 ?_
  refine va_sld hx hb hX hbl hbA W0.2.2.2.2 (hin 1 (by omega)) dL_law_498 ?_
  refine lv_aload_n hx hb dL_law_499 rfl (lv_at hl 0 rfl) ?_
  refine lv_iload_n hx hb dL_law_500 rfl (lv_at hl 3 rfl) ?_
  refine lv_iconst (v := 2) hx hb dL_law_501 (by decide) ?_
  refine lv_iadd hx hb dL_law_502 ?_
  refine va_sld hx hb hX hbl hbA W0.2.2.2.2 (hin 2 (by omega)) dL_law_503 ?_
  refine lv_aload_n hx hb dL_law_504 rfl (lv_at hl 0 rfl) ?_
  refine lv_iload_n hx hb dL_law_505 rfl (lv_at hl 3 rfl) ?_
  refine lv_iconst (v := 3) hx hb dL_law_506 (by decide) ?_
  refine lv_iadd hx hb dL_law_507 ?_
  refine va_sld hx hb hX hbl hbA W0.2.2.2.2 (hin 3 (by omega)) dL_law_508 ?_
  refine lv_aload_n hx hb dL_law_509 rfl (lv_at hl 0 rfl) ?_
  refine lv_iload_n hx hb dL_law_510 rfl (lv_at hl 3 rfl) ?_
  refine lv_iconst (v := 4) hx hb dL_law_511 (by decide) ?_
  refine lv_iadd hx hb dL_law_512 ?_
  refine va_sld hx hb hX hbl hbA W0.2.2.2.2 (hin 4 (by omega)) dL_law_513 ?_
  refine lv_aload_n hx hb dL_law_514 rfl (lv_at hl 0 rfl) ?_
  refine lv_iload_n hx hb dL_law_515 rfl (lv_at hl 3 rfl) ?_
  refine lv_iconst (v := 5) hx hb dL_law_516 (by decide) ?_
  refine lv_iadd hx hb dL_law_517 ?_
  refine va_sld hx hb hX hbl hbA W0.2.2.2.2 (hin 5 (by omega)) dL_law_518 ?_
  obtain ⟨S1, e1, h1⟩ := c_says hr hw ((xs (nI n + 1).toNatClampNeg)) ((xs (nI n + 2).toNatClampNeg)) ((xs (nI n + 3).toNatClampNeg)) ((xs (nI n + 4).toNatClampNeg)) ((xs (nI n + 5).toNatClampNeg))
  refine y_callC C W0 (As := [.int (xs (nI n + 1).toNatClampNeg), .int (xs (nI n + 2).toNatClampNeg), .int (xs (nI n + 3).toNatClampNeg), .int (xs (nI n + 4).toNatClampNeg), .int (xs (nI n + 5).toNatClampNeg)]) (rest := []) (st1 := [.int ((sSays g ((xs (nI n + 1).toNatClampNeg)) ((xs (nI n + 2).toNatClampNeg)) ((xs (nI n + 3).toNatClampNeg)) ((xs (nI n + 4).toNatClampNeg)) ((xs (nI n + 5).toNatClampNeg))))]) (jSmoke_says_ok e1) u471 u472 u473 u38 u474 hdX6_says rfl ⟨Nat.le_of_ble_eq_true rfl, Nat.le_of_ble_eq_true rfl⟩ ⟨rfl, rfl⟩ hl.1 (Nat.le_of_ble_eq_true rfl) dL_law_519 hcs (fun H locs W0 => ?_) rfl rfl
  refine lv_aload_n hx hb dL_law_522 rfl (lv_at hl 2 rfl) ?_
  refine lv_aload_n hx hb dL_law_523 rfl (lv_at hl 0 rfl) ?_
  refine lv_iload_n hx hb dL_law_524 rfl (lv_at hl 3 rfl) ?_
  refine lv_iconst (v := 1) hx hb dL_law_525 (by decide) ?_
  refine lv_iadd hx hb dL_law_526 ?_
  refine va_sld hx hb hX hbl hbA W0.2.2.2.2 (hin 1 (by omega)) dL_law_527 ?_
  refine lv_aload_n hx hb dL_law_528 rfl (lv_at hl 0 rfl) ?_
  refine lv_iload_n hx hb dL_law_529 rfl (lv_at hl 3 rfl) ?_
  refine lv_iconst (v := 2) hx hb dL_law_530 (by decide) ?_
  refine lv_iadd hx hb dL_law_531 ?_
  refine va_sld hx hb hX hbl hbA W0.2.2.2.2 (hin 2 (by omega)) dL_law_532 ?_
  refine lv_aload_n hx hb dL_law_533 rfl (lv_at hl 0 rfl) ?_
  refine lv_iload_n hx hb dL_law_534 rfl (lv_at hl 3 rfl) ?_
  refine lv_iconst (v := 3) hx hb dL_law_535 (by decide) ?_
  refine lv_iadd hx hb dL_law_536 ?_
  refine va_sld hx hb hX hbl hbA W0.2.2.2.2 (hin 3 (by omega)) dL_law_537 ?_
  refine lv_aload_n hx hb dL_law_538 rfl (lv_at hl 0 rfl) ?_
  refine lv_iload_n hx hb dL_law_539 rfl (lv_at hl 3 rfl) ?_
  refine lv_iconst (v := 4) hx hb dL_law_540 (by decide) ?_
  refine lv_iadd hx hb dL_law_541 ?_
  refine va_sld hx hb hX hbl hbA W0.2.2.2.2 (hin 4 (by omega)) dL_law_542 ?_
  refine lv_aload_n hx hb dL_law_543 rfl (lv_at hl 0 rfl) ?_
  refine lv_iload_n hx hb dL_law_544 rfl (lv_at hl 3 rfl) ?_
  refine lv_iconst (v := 5) hx hb dL_law_545 (by decide) ?_
  refine lv_iadd hx hb dL_law_546 ?_
  refine va_sld hx hb hX hbl hbA W0.2.2.2.2 (hin 5 (by omega)) dL_law_547 ?_
  obtain ⟨M1, e2, h2⟩ := m_says hm hw ((xs (nI n + 1).toNatClampNeg)) ((xs (nI n + 2).toNatClampNeg)) ((xs (nI n + 3).toNatClampNeg)) ((xs (nI n + 4).toNatClampNeg)) ((xs (nI n + 5).toNatClampNeg))
  refine y_callM C W0 (As := [.int (xs (nI n + 1).toNatClampNeg), .int (xs (nI n + 2).toNatClampNeg), .int (xs (nI n + 3).toNatClampNeg), .int (xs (nI n + 4).toNatClampNeg), .int (xs (nI n + 5).toNatClampNeg)]) (rest := [.int ((sSays g ((xs (nI n + 1).toNatClampNeg)) ((xs (nI n + 2).toNatClampNeg)) ((xs (nI n + 3).toNatClampNeg)) ((xs (nI n + 4).toNatClampNeg)) ((xs (nI n + 5).toNatClampNeg))))]) (st1 := [.int ((sSays g ((xs (nI n + 1).toNatClampNeg)) ((xs (nI n + 2).toNatClampNeg)) ((xs (nI n + 3).toNatClampNeg)) ((xs (nI n + 4).toNatClampNeg)) ((xs (nI n + 5).toNatClampNeg)))), .int ((sSays g ((xs (nI n + 1).toNatClampNeg)) ((xs (nI n + 2).toNatClampNeg)) ((xs (nI n + 3).toNatClampNeg)) ((xs (nI n + 4).toNatClampNeg)) ((xs (nI n + 5).toNatClampNeg))))]) (jMod_says_ok e2) u855 u856 u857 u45 u858 hdX7_says rfl ⟨Nat.le_of_ble_eq_true rfl, Nat.le_of_ble_eq_true rfl⟩ ⟨rfl, rfl⟩ hl.1 (Nat.le_of_ble_eq_true rfl) dL_law_548 hcs (fun H locs W0 => ?_) rfl rfl
  refine lv_icmp_eq (tgt := 1036) hx hb dL_law_551 (by decide) (fun hc => ?_) (fun hc => ?_)
  · exact kk _ _ _ _ _ h1 h2 hw W0
  · exact absurd rfl hc
set_option maxHeartbeats 4000000 in
set_option maxRecDepth 100000 in
theorem law_nearest (C : LC p s m meth c b L xs D T q q' aK aV) (W0 : LWS s D T q q' S M H locs) (hr : CR g S) (hm : MR g M) (hw : WG g) {n : Nat} (hn : n + 6 ≤ L) (hl : lv_has ls 4 (LV b q q' n)) (hcs : cells ≤ room_1.cells ∧ slots ≤ room_1.slots)
    (kk : ∀ (g' : Gh) (S' M' : St) (H' : Heap) (locs' : List Loc), CR g' S' → MR g' M' → WG g' → LWS s D T q q' S' M' H' locs' → W p l e room_1 s m #[Value.ref b] below meth c H' locs' cells slots Q (F0 m 1036 ls [])) : W p l e room_1 s m #[Value.ref b] below meth c H locs cells slots Q (F0 m 556 ls []) := by
  obtain ⟨⟨hx, hb, -, hml, hown, hts, -, hA⟩, hX, hbl, hL, -⟩ := id C
  have hbA : ¬ AL s b := Nat.not_le.mpr hbl
  have hin : ∀ k, k < 6 → vp_in (nI n + nI k) L := fun k hk => by rw [nI_add]; exact vp_in_nI (by omega) (by omega)
  refine lv_aload_n hx hb dL_law_556 rfl (lv_at hl 1 rfl) ?_
  refine lv_aload_n hx hb dL_law_557 rfl (lv_at hl 0 rfl) ?_
  refine lv_iload_n hx hb dL_law_558 rfl (lv_at hl 3 rfl) ?_
  refine lv_iconst (v := 1) hx hb dL_law_559 (by decide) ?_
  refine lv_iadd hx hb dL_law_560 ?_
  refine va_sld hx hb hX hbl hbA W0.2.2.2.2 (hin 1 (by omega)) dL_law_561 ?_
  refine lv_aload_n hx hb dL_law_562 rfl (lv_at hl 0 rfl) ?_
  refine lv_iload_n hx hb dL_law_563 rfl (lv_at hl 3 rfl) ?_
  refine lv_iconst (v := 2) hx hb dL_law_564 (by decide) ?_
  refine lv_iadd hx hb dL_law_565 ?_
  refine va_sld hx hb hX hbl hbA W0.2.2.2.2 (hin 2 (by omega)) dL_law_566 ?_
  refine lv_aload_n hx hb dL_law_567 rfl (lv_at hl 0 rfl) ?_
  refine lv_iload_n hx hb dL_law_568 rfl (lv_at hl 3 rfl) ?_
  refine lv_iconst (v := 3) hx hb dL_law_569 (by decide) ?_
  refine lv_iadd hx hb dL_law_570 ?_
  refine va_sld hx hb hX hbl hbA W0.2.2.2.2 (hin 3 (by omega)) dL_law_571 ?_
  refine lv_aload_n hx hb dL_law_572 rfl (lv_at hl 0 rfl) ?_
  refine lv_iload_n hx hb dL_law_573 rfl (lv_at hl 3 rfl) ?_
  refine lv_iconst (v := 4) hx hb dL_law_574 (by decide) ?_
  refine lv_iadd hx hb dL_law_575 ?_
  refine va_sld hx hb hX hbl hbA W0.2.2.2.2 (hin 4 (by omega)) dL_law_576 ?_
  obtain ⟨S1, e1, h1⟩ := c_nearest hr hw ((xs (nI n + 1).toNatClampNeg)) ((xs (nI n + 2).toNatClampNeg)) ((xs (nI n + 3).toNatClampNeg)) ((xs (nI n + 4).toNatClampNeg))
  refine y_callC C W0 (As := [.int (xs (nI n + 1).toNatClampNeg), .int (xs (nI n + 2).toNatClampNeg), .int (xs (nI n + 3).toNatClampNeg), .int (xs (nI n + 4).toNatClampNeg)]) (rest := []) (st1 := [.int ((sNear g ((xs (nI n + 1).toNatClampNeg)) ((xs (nI n + 2).toNatClampNeg)) ((xs (nI n + 3).toNatClampNeg)) ((xs (nI n + 4).toNatClampNeg))))]) (jSmoke_nearest_ok e1) u505 u506 u507 u38 u508 hdX6_nearest rfl ⟨Nat.le_of_ble_eq_true rfl, Nat.le_of_ble_eq_true rfl⟩ ⟨rfl, rfl⟩ hl.1 (Nat.le_of_ble_eq_true rfl) dL_law_577 hcs (fun H locs W0 => ?_) rfl rfl
  refine lv_aload_n hx hb dL_law_580 rfl (lv_at hl 2 rfl) ?_
  refine lv_aload_n hx hb dL_law_581 rfl (lv_at hl 0 rfl) ?_
  refine lv_iload_n hx hb dL_law_582 rfl (lv_at hl 3 rfl) ?_
  refine lv_iconst (v := 1) hx hb dL_law_583 (by decide) ?_
  refine lv_iadd hx hb dL_law_584 ?_
  refine va_sld hx hb hX hbl hbA W0.2.2.2.2 (hin 1 (by omega)) dL_law_585 ?_
  refine lv_aload_n hx hb dL_law_586 rfl (lv_at hl 0 rfl) ?_
  refine lv_iload_n hx hb dL_law_587 rfl (lv_at hl 3 rfl) ?_
  refine lv_iconst (v := 2) hx hb dL_law_588 (by decide) ?_
  refine lv_iadd hx hb dL_law_589 ?_
  refine va_sld hx hb hX hbl hbA W0.2.2.2.2 (hin 2 (by omega)) dL_law_590 ?_
  refine lv_aload_n hx hb dL_law_591 rfl (lv_at hl 0 rfl) ?_
  refine lv_iload_n hx hb dL_law_592 rfl (lv_at hl 3 rfl) ?_
  refine lv_iconst (v := 3) hx hb dL_law_593 (by decide) ?_
  refine lv_iadd hx hb dL_law_594 ?_
  refine va_sld hx hb hX hbl hbA W0.2.2.2.2 (hin 3 (by omega)) dL_law_595 ?_
  refine lv_aload_n hx hb dL_law_596 rfl (lv_at hl 0 rfl) ?_
  refine lv_iload_n hx hb dL_law_597 rfl (lv_at hl 3 rfl) ?_
  refine lv_iconst (v := 4) hx hb dL_law_598 (by decide) ?_
  refine lv_iadd hx hb dL_law_599 ?_
  refine va_sld hx hb hX hbl hbA W0.2.2.2.2 (hin 4 (by omega)) dL_law_600 ?_
  obtain ⟨M1, e2, h2⟩ := m_nearest hm hw ((xs (nI n + 1).toNatClampNeg)) ((xs (nI n + 2).toNatClampNeg)) ((xs (nI n + 3).toNatClampNeg)) ((xs (nI n + 4).toNatClampNeg))
  refine y_callM C W0 (As := [.int (xs (nI n + 1).toNatClampNeg), .int (xs (nI n + 2).toNatClampNeg), .int (xs (nI n + 3).toNatClampNeg), .int (xs (nI n + 4).toNatClampNeg)]) (rest := [.int ((sNear g ((xs (nI n + 1).toNatClampNeg)) ((xs (nI n + 2).toNatClampNeg)) ((xs (nI n + 3).toNatClampNeg)) ((xs (nI n + 4).toNatClampNeg))))]) (st1 := [.int ((sNear g ((xs (nI n + 1).toNatClampNeg)) ((xs (nI n + 2).toNatClampNeg)) ((xs (nI n + 3).toNatClampNeg)) ((xs (nI n + 4).toNatClampNeg)))), .int ((sNear g ((xs (nI n + 1).toNatClampNeg)) ((xs (nI n + 2).toNatClampNeg)) ((xs (nI n + 3).toNatClampNeg)) ((xs (nI n + 4).toNatClampNeg))))]) (jMod_nearest_ok e2) u878 u879 u880 u45 u881 hdX7_nearest rfl ⟨Nat.le_of_ble_eq_true rfl, Nat.le_of_ble_eq_true rfl⟩ ⟨rfl, rfl⟩ hl.1 (Nat.le_of_ble_eq_true rfl) dL_law_601 hcs (fun H locs W0 => ?_) rfl rfl
  refine lv_icmp_eq (tgt := 1036) hx hb dL_law_604 (by decide) (fun hc => ?_) (fun hc => ?_)
  · exact kk _ _ _ _ _ h1 h2 hw W0
  · exact absurd rfl hc
set_option maxHeartbeats 4000000 in
set_option maxRecDepth 100000 in
theorem law_reads (C : LC p s m meth c b L xs D T q q' aK aV) (W0 : LWS s D T q q' S M H locs) (hr : CR g S) (hm : MR g M) (hw : WG g) {n : Nat} (hn : n + 6 ≤ L) (hl : lv_has ls 4 (LV b q q' n)) (hcs : cells ≤ room_1.cells ∧ slots ≤ room_1.slots)
    (kk : ∀ (g' : Gh) (S' M' : St) (H' : Heap) (locs' : List Loc), CR g' S' → MR g' M' → WG g' → LWS s D T q q' S' M' H' locs' → W p l e room_1 s m #[Value.ref b] below meth c H' locs' cells slots Q (F0 m 1036 ls [])) : W p l e room_1 s m #[Value.ref b] below meth c H locs cells slots Q (F0 m 609 ls []) := by
  obtain ⟨⟨hx, hb, -, hml, hown, hts, -, hA⟩, hX, hbl, hL, -⟩ := id C
  have hbA : ¬ AL s b := Nat.not_le.mpr hbl
  have hin : ∀ k, k < 6 → vp_in (nI n + nI k) L := fun k hk => by rw [nI_add]; exact vp_in_nI (by omega) (by omega)
  refine lv_aload_n hx hb dL_law_609 rfl (lv_at hl 1 rfl) ?_
  refine lv_aload_n hx hb dL_law_610 rfl (lv_at hl 0 rfl) ?_
  refine lv_iload_n hx hb dL_law_611 rfl (lv_at hl 3 rfl) ?_
  refine lv_iconst (v := 1) hx hb dL_law_612 (by decide) ?_
  refine lv_iadd hx hb dL_law_613 ?_
  refine va_sld hx hb hX hbl hbA W0.2.2.2.2 (hin 1 (by omega)) dL_law_614 ?_
  refine lv_aload_n hx hb dL_law_615 rfl (lv_at hl 0 rfl) ?_
  refine lv_iload_n hx hb dL_law_616 rfl (lv_at hl 3 rfl) ?_
  refine lv_iconst (v := 2) hx hb dL_law_617 (by decide) ?_
  refine lv_iadd hx hb dL_law_618 ?_
  refine va_sld hx hb hX hbl hbA W0.2.2.2.2 (hin 2 (by omega)) dL_law_619 ?_
  have e1 : jSmoke_reads ((xs (nI n + 1).toNatClampNeg)) ((xs (nI n + 2).toNatClampNeg)) S = some ((sReads g ((xs (nI n + 1).toNatClampNeg)) ((xs (nI n + 2).toNatClampNeg))), S) := c_reads hr hw ((xs (nI n + 1).toNatClampNeg)) ((xs (nI n + 2).toNatClampNeg))
  have h1 : CR g S := hr
  refine y_callC C W0 (As := [.int (xs (nI n + 1).toNatClampNeg), .int (xs (nI n + 2).toNatClampNeg)]) (rest := []) (st1 := [.int ((sReads g ((xs (nI n + 1).toNatClampNeg)) ((xs (nI n + 2).toNatClampNeg))))]) (jSmoke_reads_ok e1) u520 u521 u522 u38 u523 hdX6_reads rfl ⟨Nat.le_of_ble_eq_true rfl, Nat.le_of_ble_eq_true rfl⟩ ⟨rfl, rfl⟩ hl.1 (Nat.le_of_ble_eq_true rfl) dL_law_620 hcs (fun H locs W0 => ?_) rfl rfl
  refine lv_aload_n hx hb dL_law_623 rfl (lv_at hl 2 rfl) ?_
  refine lv_aload_n hx hb dL_law_624 rfl (lv_at hl 0 rfl) ?_
  refine lv_iload_n hx hb dL_law_625 rfl (lv_at hl 3 rfl) ?_
  refine lv_iconst (v := 1) hx hb dL_law_626 (by decide) ?_
  refine lv_iadd hx hb dL_law_627 ?_
  refine va_sld hx hb hX hbl hbA W0.2.2.2.2 (hin 1 (by omega)) dL_law_628 ?_
  refine lv_aload_n hx hb dL_law_629 rfl (lv_at hl 0 rfl) ?_
  refine lv_iload_n hx hb dL_law_630 rfl (lv_at hl 3 rfl) ?_
  refine lv_iconst (v := 2) hx hb dL_law_631 (by decide) ?_
  refine lv_iadd hx hb dL_law_632 ?_
  refine va_sld hx hb hX hbl hbA W0.2.2.2.2 (hin 2 (by omega)) dL_law_633 ?_
  have e2 : jMod_reads ((xs (nI n + 1).toNatClampNeg)) ((xs (nI n + 2).toNatClampNeg)) M = some ((sReads g ((xs (nI n + 1).toNatClampNeg)) ((xs (nI n + 2).toNatClampNeg))), M) := m_reads hm hw ((xs (nI n + 1).toNatClampNeg)) ((xs (nI n + 2).toNatClampNeg))
  have h2 : MR g M := hm
  refine y_callM C W0 (As := [.int (xs (nI n + 1).toNatClampNeg), .int (xs (nI n + 2).toNatClampNeg)]) (rest := [.int ((sReads g ((xs (nI n + 1).toNatClampNeg)) ((xs (nI n + 2).toNatClampNeg))))]) (st1 := [.int ((sReads g ((xs (nI n + 1).toNatClampNeg)) ((xs (nI n + 2).toNatClampNeg)))), .int ((sReads g ((xs (nI n + 1).toNatClampNeg)) ((xs (nI n + 2).toNatClampNeg))))]) (jMod_reads_ok e2) u885 u886 u887 u45 u888 hdX7_reads rfl ⟨Nat.le_of_ble_eq_true rfl, Nat.le_of_ble_eq_true rfl⟩ ⟨rfl, rfl⟩ hl.1 (Nat.le_of_ble_eq_true rfl) dL_law_634 hcs (fun H locs W0 => ?_) rfl rfl
  refine lv_icmp_eq (tgt := 1036) hx hb dL_law_637 (by decide) (fun hc => ?_) (fun hc => ?_)
  · exact kk _ _ _ _ _ h1 h2 hw W0
  · exact absurd rfl hc
set_option maxHeartbeats 4000000 in
set_option maxRecDepth 100000 in
theorem law_means (C : LC p s m meth c b L xs D T q q' aK aV) (W0 : LWS s D T q q' S M H locs) (hr : CR g S) (hm : MR g M) (hw : WG g) {n : Nat} (hn : n + 6 ≤ L) (hl : lv_has ls 4 (LV b q q' n)) (hcs : cells ≤ room_1.cells ∧ slots ≤ room_1.slots)
    (kk : ∀ (g' : Gh) (S' M' : St) (H' : Heap) (locs' : List Loc), CR g' S' → MR g' M' → WG g' → LWS s D T q q' S' M' H' locs' → W p l e room_1 s m #[Value.ref b] below meth c H' locs' cells slots Q (F0 m 1036 ls [])) : W p l e room_1 s m #[Value.ref b] below meth c H locs cells slots Q (F0 m 642 ls []) := by
  obtain ⟨⟨hx, hb, -, hml, hown, hts, -, hA⟩, hX, hbl, hL, -⟩ := id C
  have hbA : ¬ AL s b := Nat.not_le.mpr hbl
  have hin : ∀ k, k < 6 → vp_in (nI n + nI k) L := fun k hk => by rw [nI_add]; exact vp_in_nI (by omega) (by omega)
  refine lv_aload_n hx hb dL_law_642 rfl (lv_at hl 1 rfl) ?_
  refine lv_aload_n hx hb dL_law_643 rfl (lv_at hl 0 rfl) ?_
  refine lv_iload_n hx hb dL_law_644 rfl (lv_at hl 3 rfl) ?_
  refine lv_iconst (v := 1) hx hb dL_law_645 (by decide) ?_
  refine lv_iadd hx hb dL_law_646 ?_
  refine va_sld hx hb hX hbl hbA W0.2.2.2.2 (hin 1 (by omega)) dL_law_647 ?_
  have e1 : jSmoke_means ((xs (nI n + 1).toNatClampNeg)) S = some ((sMeans g ((xs (nI n + 1).toNatClampNeg))), S) := c_means hr hw ((xs (nI n + 1).toNatClampNeg))
  have h1 : CR g S := hr
  refine y_callC C W0 (As := [.int (xs (nI n + 1).toNatClampNeg)]) (rest := []) (st1 := [.int ((sMeans g ((xs (nI n + 1).toNatClampNeg))))]) (jSmoke_means_ok e1) u531 u532 u533 u38 u534 hdX6_means rfl ⟨Nat.le_of_ble_eq_true rfl, Nat.le_of_ble_eq_true rfl⟩ ⟨rfl, rfl⟩ hl.1 (Nat.le_of_ble_eq_true rfl) dL_law_648 hcs (fun H locs W0 => ?_) rfl rfl
  refine lv_aload_n hx hb dL_law_651 rfl (lv_at hl 2 rfl) ?_
  refine lv_aload_n hx hb dL_law_652 rfl (lv_at hl 0 rfl) ?_
  refine lv_iload_n hx hb dL_law_653 rfl (lv_at hl 3 rfl) ?_
  refine lv_iconst (v := 1) hx hb dL_law_654 (by decide) ?_
  refine lv_iadd hx hb dL_law_655 ?_
  refine va_sld hx hb hX hbl hbA W0.2.2.2.2 (hin 1 (by omega)) dL_law_656 ?_
  have e2 : jMod_means ((xs (nI n + 1).toNatClampNeg)) M = some ((sMeans g ((xs (nI n + 1).toNatClampNeg))), M) := m_means hm hw ((xs (nI n + 1).toNatClampNeg))
  have h2 : MR g M := hm
  refine y_callM C W0 (As := [.int (xs (nI n + 1).toNatClampNeg)]) (rest := [.int ((sMeans g ((xs (nI n + 1).toNatClampNeg))))]) (st1 := [.int ((sMeans g ((xs (nI n + 1).toNatClampNeg)))), .int ((sMeans g ((xs (nI n + 1).toNatClampNeg))))]) (jMod_means_ok e2) u896 u897 u898 u45 u899 hdX7_means rfl ⟨Nat.le_of_ble_eq_true rfl, Nat.le_of_ble_eq_true rfl⟩ ⟨rfl, rfl⟩ hl.1 (Nat.le_of_ble_eq_true rfl) dL_law_657 hcs (fun H locs W0 => ?_) rfl rfl
  refine lv_icmp_eq (tgt := 1036) hx hb dL_law_660 (by decide) (fun hc => ?_) (fun hc => ?_)
  · exact kk _ _ _ _ _ h1 h2 hw W0
  · exact absurd rfl hc
set_option maxHeartbeats 4000000 in
set_option maxRecDepth 100000 in
theorem law_chain (C : LC p s m meth c b L xs D T q q' aK aV) (W0 : LWS s D T q q' S M H locs) (hr : CR g S) (hm : MR g M) (hw : WG g) {n : Nat} (hn : n + 6 ≤ L) (hl : lv_has ls 4 (LV b q q' n)) (hcs : cells ≤ room_1.cells ∧ slots ≤ room_1.slots)
    (kk : ∀ (g' : Gh) (S' M' : St) (H' : Heap) (locs' : List Loc), CR g' S' → MR g' M' → WG g' → LWS s D T q q' S' M' H' locs' → W p l e room_1 s m #[Value.ref b] below meth c H' locs' cells slots Q (F0 m 1036 ls [])) : W p l e room_1 s m #[Value.ref b] below meth c H locs cells slots Q (F0 m 665 ls []) := by
  obtain ⟨⟨hx, hb, -, hml, hown, hts, -, hA⟩, hX, hbl, hL, -⟩ := id C
  have hbA : ¬ AL s b := Nat.not_le.mpr hbl
  have hin : ∀ k, k < 6 → vp_in (nI n + nI k) L := fun k hk => by rw [nI_add]; exact vp_in_nI (by omega) (by omega)
  refine lv_aload_n hx hb dL_law_665 rfl (lv_at hl 1 rfl) ?_
  refine lv_aload_n hx hb dL_law_666 rfl (lv_at hl 0 rfl) ?_
  refine lv_iload_n hx hb dL_law_667 rfl (lv_at hl 3 rfl) ?_
  refine lv_iconst (v := 1) hx hb dL_law_668 (by decide) ?_
  refine lv_iadd hx hb dL_law_669 ?_
  refine va_sld hx hb hX hbl hbA W0.2.2.2.2 (hin 1 (by omega)) dL_law_670 ?_
  refine lv_aload_n hx hb dL_law_671 rfl (lv_at hl 0 rfl) ?_
  refine lv_iload_n hx hb dL_law_672 rfl (lv_at hl 3 rfl) ?_
  refine lv_iconst (v := 2) hx hb dL_law_673 (by decide) ?_
  refine lv_iadd hx hb dL_law_674 ?_
  refine va_sld hx hb hX hbl hbA W0.2.2.2.2 (hin 2 (by omega)) dL_law_675 ?_
  refine lv_aload_n hx hb dL_law_676 rfl (lv_at hl 0 rfl) ?_
  refine lv_iload_n hx hb dL_law_677 rfl (lv_at hl 3 rfl) ?_
  refine lv_iconst (v := 3) hx hb dL_law_678 (by decide) ?_
  refine lv_iadd hx hb dL_law_679 ?_
  refine va_sld hx hb hX hbl hbA W0.2.2.2.2 (hin 3 (by omega)) dL_law_680 ?_
  obtain ⟨S1, e1, h1⟩ := c_chain hr hw ((xs (nI n + 1).toNatClampNeg)) ((xs (nI n + 2).toNatClampNeg)) ((xs (nI n + 3).toNatClampNeg))
  refine y_callC C W0 (As := [.int (xs (nI n + 1).toNatClampNeg), .int (xs (nI n + 2).toNatClampNeg), .int (xs (nI n + 3).toNatClampNeg)]) (rest := []) (st1 := [.long ((sChain g ((xs (nI n + 1).toNatClampNeg)) ((xs (nI n + 2).toNatClampNeg)) ((xs (nI n + 3).toNatClampNeg))))]) (jSmoke_chain_ok e1) u539 u540 u541 u38 u542 hdX6_chain rfl ⟨Nat.le_of_ble_eq_true rfl, Nat.le_of_ble_eq_true rfl⟩ ⟨rfl, rfl⟩ hl.1 (Nat.le_of_ble_eq_true rfl) dL_law_681 hcs (fun H locs W0 => ?_) rfl rfl
  refine lv_aload_n hx hb dL_law_684 rfl (lv_at hl 2 rfl) ?_
  refine lv_aload_n hx hb dL_law_685 rfl (lv_at hl 0 rfl) ?_
  refine lv_iload_n hx hb dL_law_686 rfl (lv_at hl 3 rfl) ?_
  refine lv_iconst (v := 1) hx hb dL_law_687 (by decide) ?_
  refine lv_iadd hx hb dL_law_688 ?_
  refine va_sld hx hb hX hbl hbA W0.2.2.2.2 (hin 1 (by omega)) dL_law_689 ?_
  refine lv_aload_n hx hb dL_law_690 rfl (lv_at hl 0 rfl) ?_
  refine lv_iload_n hx hb dL_law_691 rfl (lv_at hl 3 rfl) ?_
  refine lv_iconst (v := 2) hx hb dL_law_692 (by decide) ?_
  refine lv_iadd hx hb dL_law_693 ?_
  refine va_sld hx hb hX hbl hbA W0.2.2.2.2 (hin 2 (by omega)) dL_law_694 ?_
  refine lv_aload_n hx hb dL_law_695 rfl (lv_at hl 0 rfl) ?_
  refine lv_iload_n hx hb dL_law_696 rfl (lv_at hl 3 rfl) ?_
  refine lv_iconst (v := 3) hx hb dL_law_697 (by decide) ?_
  refine lv_iadd hx hb dL_law_698 ?_
  refine va_sld hx hb hX hbl hbA W0.2.2.2.2 (hin 3 (by omega)) dL_law_699 ?_
  obtain ⟨M1, e2, h2⟩ := m_chain hm hw ((xs (nI n + 1).toNatClampNeg)) ((xs (nI n + 2).toNatClampNeg)) ((xs (nI n + 3).toNatClampNeg))
  refine y_callM C W0 (As := [.int (xs (nI n + 1).toNatClampNeg), .int (xs (nI n + 2).toNatClampNeg), .int (xs (nI n + 3).toNatClampNeg)]) (rest := [.long ((sChain g ((xs (nI n + 1).toNatClampNeg)) ((xs (nI n + 2).toNatClampNeg)) ((xs (nI n + 3).toNatClampNeg))))]) (st1 := [.long ((sChain g ((xs (nI n + 1).toNatClampNeg)) ((xs (nI n + 2).toNatClampNeg)) ((xs (nI n + 3).toNatClampNeg)))), .long ((sChain g ((xs (nI n + 1).toNatClampNeg)) ((xs (nI n + 2).toNatClampNeg)) ((xs (nI n + 3).toNatClampNeg))))]) (jMod_chain_ok e2) u904 u905 u906 u45 u907 hdX7_chain rfl ⟨Nat.le_of_ble_eq_true rfl, Nat.le_of_ble_eq_true rfl⟩ ⟨rfl, rfl⟩ hl.1 (Nat.le_of_ble_eq_true rfl) dL_law_700 hcs (fun H locs W0 => ?_) rfl rfl
  refine W.lcmp hx hb dL_law_703 ?_
  refine lv_if_eq (tgt := 1036) hx hb dL_law_704 (by decide) (fun hc => ?_) (fun hc => ?_)
  · exact kk _ _ _ _ _ h1 h2 hw W0
  · exact absurd ((lg_cmp_eq _ _).mpr rfl) hc
set_option maxHeartbeats 4000000 in
set_option maxRecDepth 100000 in
theorem law_who (C : LC p s m meth c b L xs D T q q' aK aV) (W0 : LWS s D T q q' S M H locs) (hr : CR g S) (hm : MR g M) (hw : WG g) {n : Nat} (hn : n + 6 ≤ L) (hl : lv_has ls 4 (LV b q q' n)) (hcs : cells ≤ room_1.cells ∧ slots ≤ room_1.slots)
    (kk : ∀ (g' : Gh) (S' M' : St) (H' : Heap) (locs' : List Loc), CR g' S' → MR g' M' → WG g' → LWS s D T q q' S' M' H' locs' → W p l e room_1 s m #[Value.ref b] below meth c H' locs' cells slots Q (F0 m 1036 ls [])) : W p l e room_1 s m #[Value.ref b] below meth c H locs cells slots Q (F0 m 709 ls []) := by
  obtain ⟨⟨hx, hb, -, hml, hown, hts, -, hA⟩, hX, hbl, hL, -⟩ := id C
  have hbA : ¬ AL s b := Nat.not_le.mpr hbl
  have hin : ∀ k, k < 6 → vp_in (nI n + nI k) L := fun k hk => by rw [nI_add]; exact vp_in_nI (by omega) (by omega)
  refine lv_aload_n hx hb dL_law_709 rfl (lv_at hl 1 rfl) ?_
  refine lv_aload_n hx hb dL_law_710 rfl (lv_at hl 0 rfl) ?_
  refine lv_iload_n hx hb dL_law_711 rfl (lv_at hl 3 rfl) ?_
  refine lv_iconst (v := 1) hx hb dL_law_712 (by decide) ?_
  refine lv_iadd hx hb dL_law_713 ?_
  refine va_sld hx hb hX hbl hbA W0.2.2.2.2 (hin 1 (by omega)) dL_law_714 ?_
  refine lv_aload_n hx hb dL_law_715 rfl (lv_at hl 0 rfl) ?_
  refine lv_iload_n hx hb dL_law_716 rfl (lv_at hl 3 rfl) ?_
  refine lv_iconst (v := 2) hx hb dL_law_717 (by decide) ?_
  refine lv_iadd hx hb dL_law_718 ?_
  refine va_sld hx hb hX hbl hbA W0.2.2.2.2 (hin 2 (by omega)) dL_law_719 ?_
  refine lv_aload_n hx hb dL_law_720 rfl (lv_at hl 0 rfl) ?_
  refine lv_iload_n hx hb dL_law_721 rfl (lv_at hl 3 rfl) ?_
  refine lv_iconst (v := 3) hx hb dL_law_722 (by decide) ?_
  refine lv_iadd hx hb dL_law_723 ?_
  refine va_sld hx hb hX hbl hbA W0.2.2.2.2 (hin 3 (by omega)) dL_law_724 ?_
  obtain ⟨S1, e1, h1⟩ := c_who hr hw ((xs (nI n + 1).toNatClampNeg)) ((xs (nI n + 2).toNatClampNeg)) ((xs (nI n + 3).toNatClampNeg))
  refine y_callC C W0 (As := [.int (xs (nI n + 1).toNatClampNeg), .int (xs (nI n + 2).toNatClampNeg), .int (xs (nI n + 3).toNatClampNeg)]) (rest := []) (st1 := [.int ((sWho g ((xs (nI n + 1).toNatClampNeg)) ((xs (nI n + 2).toNatClampNeg)) ((xs (nI n + 3).toNatClampNeg))))]) (jSmoke_who_ok e1) u564 u565 u566 u38 u567 hdX6_who rfl ⟨Nat.le_of_ble_eq_true rfl, Nat.le_of_ble_eq_true rfl⟩ ⟨rfl, rfl⟩ hl.1 (Nat.le_of_ble_eq_true rfl) dL_law_725 hcs (fun H locs W0 => ?_) rfl rfl
  refine lv_aload_n hx hb dL_law_728 rfl (lv_at hl 2 rfl) ?_
  refine lv_aload_n hx hb dL_law_729 rfl (lv_at hl 0 rfl) ?_
  refine lv_iload_n hx hb dL_law_730 rfl (lv_at hl 3 rfl) ?_
  refine lv_iconst (v := 1) hx hb dL_law_731 (by decide) ?_
  refine lv_iadd hx hb dL_law_732 ?_
  refine va_sld hx hb hX hbl hbA W0.2.2.2.2 (hin 1 (by omega)) dL_law_733 ?_
  refine lv_aload_n hx hb dL_law_734 rfl (lv_at hl 0 rfl) ?_
  refine lv_iload_n hx hb dL_law_735 rfl (lv_at hl 3 rfl) ?_
  refine lv_iconst (v := 2) hx hb dL_law_736 (by decide) ?_
  refine lv_iadd hx hb dL_law_737 ?_
  refine va_sld hx hb hX hbl hbA W0.2.2.2.2 (hin 2 (by omega)) dL_law_738 ?_
  refine lv_aload_n hx hb dL_law_739 rfl (lv_at hl 0 rfl) ?_
  refine lv_iload_n hx hb dL_law_740 rfl (lv_at hl 3 rfl) ?_
  refine lv_iconst (v := 3) hx hb dL_law_741 (by decide) ?_
  refine lv_iadd hx hb dL_law_742 ?_
  refine va_sld hx hb hX hbl hbA W0.2.2.2.2 (hin 3 (by omega)) dL_law_743 ?_
  have e2 : jMod_who ((xs (nI n + 1).toNatClampNeg)) ((xs (nI n + 2).toNatClampNeg)) ((xs (nI n + 3).toNatClampNeg)) M = some ((sWho g ((xs (nI n + 1).toNatClampNeg)) ((xs (nI n + 2).toNatClampNeg)) ((xs (nI n + 3).toNatClampNeg))), M) := m_who hm hw ((xs (nI n + 1).toNatClampNeg)) ((xs (nI n + 2).toNatClampNeg)) ((xs (nI n + 3).toNatClampNeg))
  have h2 : MR g M := hm
  refine y_callM C W0 (As := [.int (xs (nI n + 1).toNatClampNeg), .int (xs (nI n + 2).toNatClampNeg), .int (xs (nI n + 3).toNatClampNeg)]) (rest := [.int ((sWho g ((xs (nI n + 1).toNatClampNeg)) ((xs (nI n + 2).toNatClampNeg)) ((xs (nI n + 3).toNatClampNeg))))]) (st1 := [.int ((sWho g ((xs (nI n + 1).toNatClampNeg)) ((xs (nI n + 2).toNatClampNeg)) ((xs (nI n + 3).toNatClampNeg)))), .int ((sWho g ((xs (nI n + 1).toNatClampNeg)) ((xs (nI n + 2).toNatClampNeg)) ((xs (nI n + 3).toNatClampNeg))))]) (jMod_who_ok e2) u917 u918 u919 u45 u920 hdX7_who rfl ⟨Nat.le_of_ble_eq_true rfl, Nat.le_of_ble_eq_true rfl⟩ ⟨rfl, rfl⟩ hl.1 (Nat.le_of_ble_eq_true rfl) dL_law_744 hcs (fun H locs W0 => ?_) rfl rfl
  refine lv_icmp_eq (tgt := 1036) hx hb dL_law_747 (by decide) (fun hc => ?_) (fun hc => ?_)
  · exact kk _ _ _ _ _ h1 h2 hw W0
  · exact absurd rfl hc
set_option maxHeartbeats 4000000 in
set_option maxRecDepth 100000 in
theorem law_days (C : LC p s m meth c b L xs D T q q' aK aV) (W0 : LWS s D T q q' S M H locs) (hr : CR g S) (hm : MR g M) (hw : WG g) {n : Nat} (hn : n + 6 ≤ L) (hl : lv_has ls 4 (LV b q q' n)) (hcs : cells ≤ room_1.cells ∧ slots ≤ room_1.slots)
    (kk : ∀ (g' : Gh) (S' M' : St) (H' : Heap) (locs' : List Loc), CR g' S' → MR g' M' → WG g' → LWS s D T q q' S' M' H' locs' → W p l e room_1 s m #[Value.ref b] below meth c H' locs' cells slots Q (F0 m 1036 ls [])) : W p l e room_1 s m #[Value.ref b] below meth c H locs cells slots Q (F0 m 752 ls []) := by
  obtain ⟨⟨hx, hb, -, hml, hown, hts, -, hA⟩, hX, hbl, hL, -⟩ := id C
  have hbA : ¬ AL s b := Nat.not_le.mpr hbl
  have hin : ∀ k, k < 6 → vp_in (nI n + nI k) L := fun k hk => by rw [nI_add]; exact vp_in_nI (by omega) (by omega)
  refine lv_aload_n hx hb dL_law_752 rfl (lv_at hl 1 rfl) ?_
  refine lv_aload_n hx hb dL_law_753 rfl (lv_at hl 0 rfl) ?_
  refine lv_iload_n hx hb dL_law_754 rfl (lv_at hl 3 rfl) ?_
  refine lv_iconst (v := 1) hx hb dL_law_755 (by decide) ?_
  refine lv_iadd hx hb dL_law_756 ?_
  refine va_sld hx hb hX hbl hbA W0.2.2.2.2 (hin 1 (by omega)) dL_law_757 ?_
  obtain ⟨S1, e1, h1⟩ := c_days hr hw ((xs (nI n + 1).toNatClampNeg))
  refine y_callC C W0 (As := [.int (xs (nI n + 1).toNatClampNeg)]) (rest := []) (st1 := [.int ((sDays g ((xs (nI n + 1).toNatClampNeg))))]) (jSmoke_days_ok e1) u572 u573 u574 u38 u575 hdX6_days rfl ⟨Nat.le_of_ble_eq_true rfl, Nat.le_of_ble_eq_true rfl⟩ ⟨rfl, rfl⟩ hl.1 (Nat.le_of_ble_eq_true rfl) dL_law_758 hcs (fun H locs W0 => ?_) rfl rfl
  refine lv_aload_n hx hb dL_law_761 rfl (lv_at hl 2 rfl) ?_
  refine lv_aload_n hx hb dL_law_762 rfl (lv_at hl 0 rfl) ?_
  refine lv_iload_n hx hb dL_law_763 rfl (lv_at hl 3 rfl) ?_
  refine lv_iconst (v := 1) hx hb dL_law_764 (by decide) ?_
  refine lv_iadd hx hb dL_law_765 ?_
  refine va_sld hx hb hX hbl hbA W0.2.2.2.2 (hin 1 (by omega)) dL_law_766 ?_
  obtain ⟨M1, e2, h2⟩ := m_days hm hw ((xs (nI n + 1).toNatClampNeg))
  refine y_callM C W0 (As := [.int (xs (nI n + 1).toNatClampNeg)]) (rest := [.int ((sDays g ((xs (nI n + 1).toNatClampNeg))))]) (st1 := [.int ((sDays g ((xs (nI n + 1).toNatClampNeg)))), .int ((sDays g ((xs (nI n + 1).toNatClampNeg))))]) (jMod_days_ok e2) u921 u922 u923 u45 u924 hdX7_days rfl ⟨Nat.le_of_ble_eq_true rfl, Nat.le_of_ble_eq_true rfl⟩ ⟨rfl, rfl⟩ hl.1 (Nat.le_of_ble_eq_true rfl) dL_law_767 hcs (fun H locs W0 => ?_) rfl rfl
  refine lv_icmp_eq (tgt := 1036) hx hb dL_law_770 (by decide) (fun hc => ?_) (fun hc => ?_)
  · exact kk _ _ _ _ _ h1 h2 hw W0
  · exact absurd rfl hc
set_option maxHeartbeats 4000000 in
set_option maxRecDepth 100000 in
theorem law_code (C : LC p s m meth c b L xs D T q q' aK aV) (W0 : LWS s D T q q' S M H locs) (hr : CR g S) (hm : MR g M) (hw : WG g) {n : Nat} (hn : n + 6 ≤ L) (hl : lv_has ls 4 (LV b q q' n)) (hcs : cells ≤ room_1.cells ∧ slots ≤ room_1.slots)
    (kk : ∀ (g' : Gh) (S' M' : St) (H' : Heap) (locs' : List Loc), CR g' S' → MR g' M' → WG g' → LWS s D T q q' S' M' H' locs' → W p l e room_1 s m #[Value.ref b] below meth c H' locs' cells slots Q (F0 m 1036 ls [])) : W p l e room_1 s m #[Value.ref b] below meth c H locs cells slots Q (F0 m 775 ls []) := by
  obtain ⟨⟨hx, hb, -, hml, hown, hts, -, hA⟩, hX, hbl, hL, -⟩ := id C
  have hbA : ¬ AL s b := Nat.not_le.mpr hbl
  have hin : ∀ k, k < 6 → vp_in (nI n + nI k) L := fun k hk => by rw [nI_add]; exact vp_in_nI (by omega) (by omega)
  refine lv_aload_n hx hb dL_law_775 rfl (lv_at hl 1 rfl) ?_
  refine lv_aload_n hx hb dL_law_776 rfl (lv_at hl 0 rfl) ?_
  refine lv_iload_n hx hb dL_law_777 rfl (lv_at hl 3 rfl) ?_
  refine lv_iconst (v := 1) hx hb dL_law_778 (by decide) ?_
  refine lv_iadd hx hb dL_law_779 ?_
  refine va_sld hx hb hX hbl hbA W0.2.2.2.2 (hin 1 (by omega)) dL_law_780 ?_
  refine lv_aload_n hx hb dL_law_781 rfl (lv_at hl 0 rfl) ?_
  refine lv_iload_n hx hb dL_law_782 rfl (lv_at hl 3 rfl) ?_
  refine lv_iconst (v := 2) hx hb dL_law_783 (by decide) ?_
  refine lv_iadd hx hb dL_law_784 ?_
  refine va_sld hx hb hX hbl hbA W0.2.2.2.2 (hin 2 (by omega)) dL_law_785 ?_
  refine lv_aload_n hx hb dL_law_786 rfl (lv_at hl 0 rfl) ?_
  refine lv_iload_n hx hb dL_law_787 rfl (lv_at hl 3 rfl) ?_
  refine lv_iconst (v := 3) hx hb dL_law_788 (by decide) ?_
  refine lv_iadd hx hb dL_law_789 ?_
  refine va_sld hx hb hX hbl hbA W0.2.2.2.2 (hin 3 (by omega)) dL_law_790 ?_
  have e1 : jSmoke_code ((xs (nI n + 1).toNatClampNeg)) ((xs (nI n + 2).toNatClampNeg)) ((xs (nI n + 3).toNatClampNeg)) S = some ((sCode g ((xs (nI n + 1).toNatClampNeg)) ((xs (nI n + 2).toNatClampNeg)) ((xs (nI n + 3).toNatClampNeg))), S) := c_code hr hw ((xs (nI n + 1).toNatClampNeg)) ((xs (nI n + 2).toNatClampNeg)) ((xs (nI n + 3).toNatClampNeg))
  have h1 : CR g S := hr
  refine y_callC C W0 (As := [.int (xs (nI n + 1).toNatClampNeg), .int (xs (nI n + 2).toNatClampNeg), .int (xs (nI n + 3).toNatClampNeg)]) (rest := []) (st1 := [.int ((sCode g ((xs (nI n + 1).toNatClampNeg)) ((xs (nI n + 2).toNatClampNeg)) ((xs (nI n + 3).toNatClampNeg))))]) (jSmoke_code_ok e1) u582 u583 u584 u38 u585 hdX6_code rfl ⟨Nat.le_of_ble_eq_true rfl, Nat.le_of_ble_eq_true rfl⟩ ⟨rfl, rfl⟩ hl.1 (Nat.le_of_ble_eq_true rfl) dL_law_791 hcs (fun H locs W0 => ?_) rfl rfl
  refine lv_aload_n hx hb dL_law_794 rfl (lv_at hl 2 rfl) ?_
  refine lv_aload_n hx hb dL_law_795 rfl (lv_at hl 0 rfl) ?_
  refine lv_iload_n hx hb dL_law_796 rfl (lv_at hl 3 rfl) ?_
  refine lv_iconst (v := 1) hx hb dL_law_797 (by decide) ?_
  refine lv_iadd hx hb dL_law_798 ?_
  refine va_sld hx hb hX hbl hbA W0.2.2.2.2 (hin 1 (by omega)) dL_law_799 ?_
  refine lv_aload_n hx hb dL_law_800 rfl (lv_at hl 0 rfl) ?_
  refine lv_iload_n hx hb dL_law_801 rfl (lv_at hl 3 rfl) ?_
  refine lv_iconst (v := 2) hx hb dL_law_802 (by decide) ?_
  refine lv_iadd hx hb dL_law_803 ?_
  refine va_sld hx hb hX hbl hbA W0.2.2.2.2 (hin 2 (by omega)) dL_law_804 ?_
  refine lv_aload_n hx hb dL_law_805 rfl (lv_at hl 0 rfl) ?_
  refine lv_iload_n hx hb dL_law_806 rfl (lv_at hl 3 rfl) ?_
  refine lv_iconst (v := 3) hx hb dL_law_807 (by decide) ?_
  refine lv_iadd hx hb dL_law_808 ?_
  refine va_sld hx hb hX hbl hbA W0.2.2.2.2 (hin 3 (by omega)) dL_law_809 ?_
  have e2 : jMod_code ((xs (nI n + 1).toNatClampNeg)) ((xs (nI n + 2).toNatClampNeg)) ((xs (nI n + 3).toNatClampNeg)) M = some ((sCode g ((xs (nI n + 1).toNatClampNeg)) ((xs (nI n + 2).toNatClampNeg)) ((xs (nI n + 3).toNatClampNeg))), M) := m_code hm hw ((xs (nI n + 1).toNatClampNeg)) ((xs (nI n + 2).toNatClampNeg)) ((xs (nI n + 3).toNatClampNeg))
  have h2 : MR g M := hm
  refine y_callM C W0 (As := [.int (xs (nI n + 1).toNatClampNeg), .int (xs (nI n + 2).toNatClampNeg), .int (xs (nI n + 3).toNatClampNeg)]) (rest := [.int ((sCode g ((xs (nI n + 1).toNatClampNeg)) ((xs (nI n + 2).toNatClampNeg)) ((xs (nI n + 3).toNatClampNeg))))]) (st1 := [.int ((sCode g ((xs (nI n + 1).toNatClampNeg)) ((xs (nI n + 2).toNatClampNeg)) ((xs (nI n + 3).toNatClampNeg)))), .int ((sCode g ((xs (nI n + 1).toNatClampNeg)) ((xs (nI n + 2).toNatClampNeg)) ((xs (nI n + 3).toNatClampNeg))))]) (jMod_code_ok e2) u929 u930 u931 u45 u932 hdX7_code rfl ⟨Nat.le_of_ble_eq_true rfl, Nat.le_of_ble_eq_true rfl⟩ ⟨rfl, rfl⟩ hl.1 (Nat.le_of_ble_eq_true rfl) dL_law_810 hcs (fun H locs W0 => ?_) rfl rfl
  refine lv_icmp_eq (tgt := 1036) hx hb dL_law_813 (by decide) (fun hc => ?_) (fun hc => ?_)
  · exact kk _ _ _ _ _ h1 h2 hw W0
  · exact absurd rfl hc
set_option maxHeartbeats 4000000 in
set_option maxRecDepth 100000 in
theorem law_feast (C : LC p s m meth c b L xs D T q q' aK aV) (W0 : LWS s D T q q' S M H locs) (hr : CR g S) (hm : MR g M) (hw : WG g) {n : Nat} (hn : n + 6 ≤ L) (hl : lv_has ls 4 (LV b q q' n)) (hcs : cells ≤ room_1.cells ∧ slots ≤ room_1.slots)
    (kk : ∀ (g' : Gh) (S' M' : St) (H' : Heap) (locs' : List Loc), CR g' S' → MR g' M' → WG g' → LWS s D T q q' S' M' H' locs' → W p l e room_1 s m #[Value.ref b] below meth c H' locs' cells slots Q (F0 m 1036 ls [])) : W p l e room_1 s m #[Value.ref b] below meth c H locs cells slots Q (F0 m 818 ls []) := by
  obtain ⟨⟨hx, hb, -, hml, hown, hts, -, hA⟩, hX, hbl, hL, -⟩ := id C
  have hbA : ¬ AL s b := Nat.not_le.mpr hbl
  have hin : ∀ k, k < 6 → vp_in (nI n + nI k) L := fun k hk => by rw [nI_add]; exact vp_in_nI (by omega) (by omega)
  refine lv_aload_n hx hb dL_law_818 rfl (lv_at hl 1 rfl) ?_
  refine lv_aload_n hx hb dL_law_819 rfl (lv_at hl 0 rfl) ?_
  refine lv_iload_n hx hb dL_law_820 rfl (lv_at hl 3 rfl) ?_
  refine lv_iconst (v := 1) hx hb dL_law_821 (by decide) ?_
  refine lv_iadd hx hb dL_law_822 ?_
  refine va_sld hx hb hX hbl hbA W0.2.2.2.2 (hin 1 (by omega)) dL_law_823 ?_
  refine lv_aload_n hx hb dL_law_824 rfl (lv_at hl 0 rfl) ?_
  refine lv_iload_n hx hb dL_law_825 rfl (lv_at hl 3 rfl) ?_
  refine lv_iconst (v := 2) hx hb dL_law_826 (by decide) ?_
  refine lv_iadd hx hb dL_law_827 ?_
  refine va_sld hx hb hX hbl hbA W0.2.2.2.2 (hin 2 (by omega)) dL_law_828 ?_
  have e1 : jSmoke_feast ((xs (nI n + 1).toNatClampNeg)) ((xs (nI n + 2).toNatClampNeg)) S = some ((sFeast g ((xs (nI n + 1).toNatClampNeg)) ((xs (nI n + 2).toNatClampNeg))), S) := c_feast hr hw ((xs (nI n + 1).toNatClampNeg)) ((xs (nI n + 2).toNatClampNeg))
  have h1 : CR g S := hr
  refine y_callC C W0 (As := [.int (xs (nI n + 1).toNatClampNeg), .int (xs (nI n + 2).toNatClampNeg)]) (rest := []) (st1 := [.int ((sFeast g ((xs (nI n + 1).toNatClampNeg)) ((xs (nI n + 2).toNatClampNeg))))]) (jSmoke_feast_ok e1) u602 u603 u604 u38 u605 hdX6_feast rfl ⟨Nat.le_of_ble_eq_true rfl, Nat.le_of_ble_eq_true rfl⟩ ⟨rfl, rfl⟩ hl.1 (Nat.le_of_ble_eq_true rfl) dL_law_829 hcs (fun H locs W0 => ?_) rfl rfl
  refine lv_aload_n hx hb dL_law_832 rfl (lv_at hl 2 rfl) ?_
  refine lv_aload_n hx hb dL_law_833 rfl (lv_at hl 0 rfl) ?_
  refine lv_iload_n hx hb dL_law_834 rfl (lv_at hl 3 rfl) ?_
  refine lv_iconst (v := 1) hx hb dL_law_835 (by decide) ?_
  refine lv_iadd hx hb dL_law_836 ?_
  refine va_sld hx hb hX hbl hbA W0.2.2.2.2 (hin 1 (by omega)) dL_law_837 ?_
  refine lv_aload_n hx hb dL_law_838 rfl (lv_at hl 0 rfl) ?_
  refine lv_iload_n hx hb dL_law_839 rfl (lv_at hl 3 rfl) ?_
  refine lv_iconst (v := 2) hx hb dL_law_840 (by decide) ?_
  refine lv_iadd hx hb dL_law_841 ?_
  refine va_sld hx hb hX hbl hbA W0.2.2.2.2 (hin 2 (by omega)) dL_law_842 ?_
  have e2 : jMod_feast ((xs (nI n + 1).toNatClampNeg)) ((xs (nI n + 2).toNatClampNeg)) M = some ((sFeast g ((xs (nI n + 1).toNatClampNeg)) ((xs (nI n + 2).toNatClampNeg))), M) := m_feast hm hw ((xs (nI n + 1).toNatClampNeg)) ((xs (nI n + 2).toNatClampNeg))
  have h2 : MR g M := hm
  refine y_callM C W0 (As := [.int (xs (nI n + 1).toNatClampNeg), .int (xs (nI n + 2).toNatClampNeg)]) (rest := [.int ((sFeast g ((xs (nI n + 1).toNatClampNeg)) ((xs (nI n + 2).toNatClampNeg))))]) (st1 := [.int ((sFeast g ((xs (nI n + 1).toNatClampNeg)) ((xs (nI n + 2).toNatClampNeg)))), .int ((sFeast g ((xs (nI n + 1).toNatClampNeg)) ((xs (nI n + 2).toNatClampNeg))))]) (jMod_feast_ok e2) u937 u938 u939 u45 u940 hdX7_feast rfl ⟨Nat.le_of_ble_eq_true rfl, Nat.le_of_ble_eq_true rfl⟩ ⟨rfl, rfl⟩ hl.1 (Nat.le_of_ble_eq_true rfl) dL_law_843 hcs (fun H locs W0 => ?_) rfl rfl
  refine lv_icmp_eq (tgt := 1036) hx hb dL_law_846 (by decide) (fun hc => ?_) (fun hc => ?_)
  · exact kk _ _ _ _ _ h1 h2 hw W0
  · exact absurd rfl hc
set_option maxHeartbeats 4000000 in
set_option maxRecDepth 100000 in
theorem law_silent (C : LC p s m meth c b L xs D T q q' aK aV) (W0 : LWS s D T q q' S M H locs) (hr : CR g S) (hm : MR g M) (hw : WG g) {n : Nat} (hn : n + 6 ≤ L) (hl : lv_has ls 4 (LV b q q' n)) (hcs : cells ≤ room_1.cells ∧ slots ≤ room_1.slots)
    (kk : ∀ (g' : Gh) (S' M' : St) (H' : Heap) (locs' : List Loc), CR g' S' → MR g' M' → WG g' → LWS s D T q q' S' M' H' locs' → W p l e room_1 s m #[Value.ref b] below meth c H' locs' cells slots Q (F0 m 1036 ls [])) : W p l e room_1 s m #[Value.ref b] below meth c H locs cells slots Q (F0 m 851 ls []) := by
  obtain ⟨⟨hx, hb, -, hml, hown, hts, -, hA⟩, hX, hbl, hL, -⟩ := id C
  have hbA : ¬ AL s b := Nat.not_le.mpr hbl
  have hin : ∀ k, k < 6 → vp_in (nI n + nI k) L := fun k hk => by rw [nI_add]; exact vp_in_nI (by omega) (by omega)
  refine lv_aload_n hx hb dL_law_851 rfl (lv_at hl 1 rfl) ?_
  refine lv_aload_n hx hb dL_law_852 rfl (lv_at hl 0 rfl) ?_
  refine lv_iload_n hx hb dL_law_853 rfl (lv_at hl 3 rfl) ?_
  refine lv_iconst (v := 1) hx hb dL_law_854 (by decide) ?_
  refine lv_iadd hx hb dL_law_855 ?_
  refine va_sld hx hb hX hbl hbA W0.2.2.2.2 (hin 1 (by omega)) dL_law_856 ?_
  have e1 : jSmoke_silent ((xs (nI n + 1).toNatClampNeg)) S = some ((sSilent g ((xs (nI n + 1).toNatClampNeg))), S) := c_silent hr hw ((xs (nI n + 1).toNatClampNeg))
  have h1 : CR g S := hr
  refine y_callC C W0 (As := [.int (xs (nI n + 1).toNatClampNeg)]) (rest := []) (st1 := [.int ((sSilent g ((xs (nI n + 1).toNatClampNeg))))]) (jSmoke_silent_ok e1) u614 u615 u616 u38 u617 hdX6_silent rfl ⟨Nat.le_of_ble_eq_true rfl, Nat.le_of_ble_eq_true rfl⟩ ⟨rfl, rfl⟩ hl.1 (Nat.le_of_ble_eq_true rfl) dL_law_857 hcs (fun H locs W0 => ?_) rfl rfl
  refine lv_aload_n hx hb dL_law_860 rfl (lv_at hl 2 rfl) ?_
  refine lv_aload_n hx hb dL_law_861 rfl (lv_at hl 0 rfl) ?_
  refine lv_iload_n hx hb dL_law_862 rfl (lv_at hl 3 rfl) ?_
  refine lv_iconst (v := 1) hx hb dL_law_863 (by decide) ?_
  refine lv_iadd hx hb dL_law_864 ?_
  refine va_sld hx hb hX hbl hbA W0.2.2.2.2 (hin 1 (by omega)) dL_law_865 ?_
  have e2 : jMod_silent ((xs (nI n + 1).toNatClampNeg)) M = some ((sSilent g ((xs (nI n + 1).toNatClampNeg))), M) := m_silent hm hw ((xs (nI n + 1).toNatClampNeg))
  have h2 : MR g M := hm
  refine y_callM C W0 (As := [.int (xs (nI n + 1).toNatClampNeg)]) (rest := [.int ((sSilent g ((xs (nI n + 1).toNatClampNeg))))]) (st1 := [.int ((sSilent g ((xs (nI n + 1).toNatClampNeg)))), .int ((sSilent g ((xs (nI n + 1).toNatClampNeg))))]) (jMod_silent_ok e2) u941 u942 u943 u45 u944 hdX7_silent rfl ⟨Nat.le_of_ble_eq_true rfl, Nat.le_of_ble_eq_true rfl⟩ ⟨rfl, rfl⟩ hl.1 (Nat.le_of_ble_eq_true rfl) dL_law_866 hcs (fun H locs W0 => ?_) rfl rfl
  refine lv_icmp_eq (tgt := 1036) hx hb dL_law_869 (by decide) (fun hc => ?_) (fun hc => ?_)
  · exact kk _ _ _ _ _ h1 h2 hw W0
  · exact absurd rfl hc
set_option maxHeartbeats 4000000 in
set_option maxRecDepth 100000 in
theorem law_drawn (C : LC p s m meth c b L xs D T q q' aK aV) (W0 : LWS s D T q q' S M H locs) (hr : CR g S) (hm : MR g M) (hw : WG g) {n : Nat} (hn : n + 6 ≤ L) (hl : lv_has ls 4 (LV b q q' n)) (hcs : cells ≤ room_1.cells ∧ slots ≤ room_1.slots)
    (kk : ∀ (g' : Gh) (S' M' : St) (H' : Heap) (locs' : List Loc), CR g' S' → MR g' M' → WG g' → LWS s D T q q' S' M' H' locs' → W p l e room_1 s m #[Value.ref b] below meth c H' locs' cells slots Q (F0 m 1036 ls [])) : W p l e room_1 s m #[Value.ref b] below meth c H locs cells slots Q (F0 m 874 ls []) := by
  obtain ⟨⟨hx, hb, -, hml, hown, hts, -, hA⟩, hX, hbl, hL, -⟩ := id C
  have hbA : ¬ AL s b := Nat.not_le.mpr hbl
  have hin : ∀ k, k < 6 → vp_in (nI n + nI k) L := fun k hk => by rw [nI_add]; exact vp_in_nI (by omega) (by omega)
  refine lv_aload_n hx hb dL_law_874 rfl (lv_at hl 1 rfl) ?_
  refine lv_aload_n hx hb dL_law_875 rfl (lv_at hl 0 rfl) ?_
  refine lv_iload_n hx hb dL_law_876 rfl (lv_at hl 3 rfl) ?_
  refine lv_iconst (v := 1) hx hb dL_law_877 (by decide) ?_
  refine lv_iadd hx hb dL_law_878 ?_
  refine va_sld hx hb hX hbl hbA W0.2.2.2.2 (hin 1 (by omega)) dL_law_879 ?_
  obtain ⟨S1, e1, h1⟩ := c_drawn hr ((xs (nI n + 1).toNatClampNeg))
  refine y_callC C W0 (As := [.int (xs (nI n + 1).toNatClampNeg)]) (rest := []) (st1 := [.int ((sDrawn g ((xs (nI n + 1).toNatClampNeg))).1)]) (jSmoke_drawn_ok e1) u618 u619 u620 u38 u621 hdX6_drawn rfl ⟨Nat.le_of_ble_eq_true rfl, Nat.le_of_ble_eq_true rfl⟩ ⟨rfl, rfl⟩ hl.1 (Nat.le_of_ble_eq_true rfl) dL_law_880 hcs (fun H locs W0 => ?_) rfl rfl
  refine lv_aload_n hx hb dL_law_883 rfl (lv_at hl 2 rfl) ?_
  refine lv_aload_n hx hb dL_law_884 rfl (lv_at hl 0 rfl) ?_
  refine lv_iload_n hx hb dL_law_885 rfl (lv_at hl 3 rfl) ?_
  refine lv_iconst (v := 1) hx hb dL_law_886 (by decide) ?_
  refine lv_iadd hx hb dL_law_887 ?_
  refine va_sld hx hb hX hbl hbA W0.2.2.2.2 (hin 1 (by omega)) dL_law_888 ?_
  obtain ⟨M1, e2, h2⟩ := m_drawn hm hw ((xs (nI n + 1).toNatClampNeg))
  refine y_callM C W0 (As := [.int (xs (nI n + 1).toNatClampNeg)]) (rest := [.int ((sDrawn g ((xs (nI n + 1).toNatClampNeg))).1)]) (st1 := [.int ((sDrawn g ((xs (nI n + 1).toNatClampNeg))).1), .int ((sDrawn g ((xs (nI n + 1).toNatClampNeg))).1)]) (jMod_drawn_ok e2) u945 u946 u947 u45 u948 hdX7_drawn rfl ⟨Nat.le_of_ble_eq_true rfl, Nat.le_of_ble_eq_true rfl⟩ ⟨rfl, rfl⟩ hl.1 (Nat.le_of_ble_eq_true rfl) dL_law_889 hcs (fun H locs W0 => ?_) rfl rfl
  refine lv_icmp_eq (tgt := 1036) hx hb dL_law_892 (by decide) (fun hc => ?_) (fun hc => ?_)
  · exact kk _ _ _ _ _ h1 h2 (w_drawn hw ((xs (nI n + 1).toNatClampNeg))) W0
  · exact absurd rfl hc
set_option maxHeartbeats 4000000 in
set_option maxRecDepth 100000 in
theorem law_lot (C : LC p s m meth c b L xs D T q q' aK aV) (W0 : LWS s D T q q' S M H locs) (hr : CR g S) (hm : MR g M) (hw : WG g) {n : Nat} (hn : n + 6 ≤ L) (hl : lv_has ls 4 (LV b q q' n)) (hcs : cells ≤ room_1.cells ∧ slots ≤ room_1.slots)
    (kk : ∀ (g' : Gh) (S' M' : St) (H' : Heap) (locs' : List Loc), CR g' S' → MR g' M' → WG g' → LWS s D T q q' S' M' H' locs' → W p l e room_1 s m #[Value.ref b] below meth c H' locs' cells slots Q (F0 m 1036 ls [])) : W p l e room_1 s m #[Value.ref b] below meth c H locs cells slots Q (F0 m 897 ls []) := by
  obtain ⟨⟨hx, hb, -, hml, hown, hts, -, hA⟩, hX, hbl, hL, -⟩ := id C
  have hbA : ¬ AL s b := Nat.not_le.mpr hbl
  have hin : ∀ k, k < 6 → vp_in (nI n + nI k) L := fun k hk => by rw [nI_add]; exact vp_in_nI (by omega) (by omega)
  refine lv_aload_n hx hb dL_law_897 rfl (lv_at hl 1 rfl) ?_
  refine lv_aload_n hx hb dL_law_898 rfl (lv_at hl 0 rfl) ?_
  refine lv_iload_n hx hb dL_law_899 rfl (lv_at hl 3 rfl) ?_
  refine lv_iconst (v := 1) hx hb dL_law_900 (by decide) ?_
  refine lv_iadd hx hb dL_law_901 ?_
  refine va_sld hx hb hX hbl hbA W0.2.2.2.2 (hin 1 (by omega)) dL_law_902 ?_
  obtain ⟨S1, e1, h1⟩ := c_lot hr ((xs (nI n + 1).toNatClampNeg))
  refine y_callC C W0 (As := [.int (xs (nI n + 1).toNatClampNeg)]) (rest := []) (st1 := [.int ((sLot g ((xs (nI n + 1).toNatClampNeg))).1)]) (jSmoke_lot_ok e1) u627 u628 u629 u38 u630 hdX6_lot rfl ⟨Nat.le_of_ble_eq_true rfl, Nat.le_of_ble_eq_true rfl⟩ ⟨rfl, rfl⟩ hl.1 (Nat.le_of_ble_eq_true rfl) dL_law_903 hcs (fun H locs W0 => ?_) rfl rfl
  refine lv_aload_n hx hb dL_law_906 rfl (lv_at hl 2 rfl) ?_
  refine lv_aload_n hx hb dL_law_907 rfl (lv_at hl 0 rfl) ?_
  refine lv_iload_n hx hb dL_law_908 rfl (lv_at hl 3 rfl) ?_
  refine lv_iconst (v := 1) hx hb dL_law_909 (by decide) ?_
  refine lv_iadd hx hb dL_law_910 ?_
  refine va_sld hx hb hX hbl hbA W0.2.2.2.2 (hin 1 (by omega)) dL_law_911 ?_
  obtain ⟨M1, e2, h2⟩ := m_lot hm hw ((xs (nI n + 1).toNatClampNeg))
  refine y_callM C W0 (As := [.int (xs (nI n + 1).toNatClampNeg)]) (rest := [.int ((sLot g ((xs (nI n + 1).toNatClampNeg))).1)]) (st1 := [.int ((sLot g ((xs (nI n + 1).toNatClampNeg))).1), .int ((sLot g ((xs (nI n + 1).toNatClampNeg))).1)]) (jMod_lot_ok e2) u950 u951 u952 u45 u953 hdX7_lot rfl ⟨Nat.le_of_ble_eq_true rfl, Nat.le_of_ble_eq_true rfl⟩ ⟨rfl, rfl⟩ hl.1 (Nat.le_of_ble_eq_true rfl) dL_law_912 hcs (fun H locs W0 => ?_) rfl rfl
  refine lv_icmp_eq (tgt := 1036) hx hb dL_law_915 (by decide) (fun hc => ?_) (fun hc => ?_)
  · exact kk _ _ _ _ _ h1 h2 (w_lot hw ((xs (nI n + 1).toNatClampNeg))) W0
  · exact absurd rfl hc
set_option maxHeartbeats 4000000 in
set_option maxRecDepth 100000 in
theorem law_mark (C : LC p s m meth c b L xs D T q q' aK aV) (W0 : LWS s D T q q' S M H locs) (hr : CR g S) (hm : MR g M) (hw : WG g) {n : Nat} (hn : n + 6 ≤ L) (hl : lv_has ls 4 (LV b q q' n)) (hcs : cells ≤ room_1.cells ∧ slots ≤ room_1.slots)
    (kk : ∀ (g' : Gh) (S' M' : St) (H' : Heap) (locs' : List Loc), CR g' S' → MR g' M' → WG g' → LWS s D T q q' S' M' H' locs' → W p l e room_1 s m #[Value.ref b] below meth c H' locs' cells slots Q (F0 m 1036 ls [])) : W p l e room_1 s m #[Value.ref b] below meth c H locs cells slots Q (F0 m 920 ls []) := by
  obtain ⟨⟨hx, hb, -, hml, hown, hts, -, hA⟩, hX, hbl, hL, -⟩ := id C
  have hbA : ¬ AL s b := Nat.not_le.mpr hbl
  have hin : ∀ k, k < 6 → vp_in (nI n + nI k) L := fun k hk => by rw [nI_add]; exact vp_in_nI (by omega) (by omega)
  refine lv_aload_n hx hb dL_law_920 rfl (lv_at hl 1 rfl) ?_
  refine lv_aload_n hx hb dL_law_921 rfl (lv_at hl 0 rfl) ?_
  refine lv_iload_n hx hb dL_law_922 rfl (lv_at hl 3 rfl) ?_
  refine lv_iconst (v := 1) hx hb dL_law_923 (by decide) ?_
  refine lv_iadd hx hb dL_law_924 ?_
  refine va_sld hx hb hX hbl hbA W0.2.2.2.2 (hin 1 (by omega)) dL_law_925 ?_
  refine lv_aload_n hx hb dL_law_926 rfl (lv_at hl 0 rfl) ?_
  refine lv_iload_n hx hb dL_law_927 rfl (lv_at hl 3 rfl) ?_
  refine lv_iconst (v := 2) hx hb dL_law_928 (by decide) ?_
  refine lv_iadd hx hb dL_law_929 ?_
  refine va_sld hx hb hX hbl hbA W0.2.2.2.2 (hin 2 (by omega)) dL_law_930 ?_
  obtain ⟨S1, e1, h1⟩ := c_mark hr hw ((xs (nI n + 1).toNatClampNeg)) ((xs (nI n + 2).toNatClampNeg))
  refine y_callC C W0 (As := [.int (xs (nI n + 1).toNatClampNeg), .int (xs (nI n + 2).toNatClampNeg)]) (rest := []) (st1 := [.int ((sMark g ((xs (nI n + 1).toNatClampNeg)) ((xs (nI n + 2).toNatClampNeg))).1)]) (jSmoke_mark_ok e1) u631 u632 u633 u38 u634 hdX6_mark rfl ⟨Nat.le_of_ble_eq_true rfl, Nat.le_of_ble_eq_true rfl⟩ ⟨rfl, rfl⟩ hl.1 (Nat.le_of_ble_eq_true rfl) dL_law_931 hcs (fun H locs W0 => ?_) rfl rfl
  refine lv_aload_n hx hb dL_law_934 rfl (lv_at hl 2 rfl) ?_
  refine lv_aload_n hx hb dL_law_935 rfl (lv_at hl 0 rfl) ?_
  refine lv_iload_n hx hb dL_law_936 rfl (lv_at hl 3 rfl) ?_
  refine lv_iconst (v := 1) hx hb dL_law_937 (by decide) ?_
  refine lv_iadd hx hb dL_law_938 ?_
  refine va_sld hx hb hX hbl hbA W0.2.2.2.2 (hin 1 (by omega)) dL_law_939 ?_
  refine lv_aload_n hx hb dL_law_940 rfl (lv_at hl 0 rfl) ?_
  refine lv_iload_n hx hb dL_law_941 rfl (lv_at hl 3 rfl) ?_
  refine lv_iconst (v := 2) hx hb dL_law_942 (by decide) ?_
  refine lv_iadd hx hb dL_law_943 ?_
  refine va_sld hx hb hX hbl hbA W0.2.2.2.2 (hin 2 (by omega)) dL_law_944 ?_
  obtain ⟨M1, e2, h2⟩ := m_mark hm hw ((xs (nI n + 1).toNatClampNeg)) ((xs (nI n + 2).toNatClampNeg))
  refine y_callM C W0 (As := [.int (xs (nI n + 1).toNatClampNeg), .int (xs (nI n + 2).toNatClampNeg)]) (rest := [.int ((sMark g ((xs (nI n + 1).toNatClampNeg)) ((xs (nI n + 2).toNatClampNeg))).1)]) (st1 := [.int ((sMark g ((xs (nI n + 1).toNatClampNeg)) ((xs (nI n + 2).toNatClampNeg))).1), .int ((sMark g ((xs (nI n + 1).toNatClampNeg)) ((xs (nI n + 2).toNatClampNeg))).1)]) (jMod_mark_ok e2) u954 u955 u956 u45 u957 hdX7_mark rfl ⟨Nat.le_of_ble_eq_true rfl, Nat.le_of_ble_eq_true rfl⟩ ⟨rfl, rfl⟩ hl.1 (Nat.le_of_ble_eq_true rfl) dL_law_945 hcs (fun H locs W0 => ?_) rfl rfl
  refine lv_icmp_eq (tgt := 1036) hx hb dL_law_948 (by decide) (fun hc => ?_) (fun hc => ?_)
  · exact kk _ _ _ _ _ h1 h2 (w_mark hw ((xs (nI n + 1).toNatClampNeg)) ((xs (nI n + 2).toNatClampNeg))) W0
  · exact absurd rfl hc
set_option maxHeartbeats 4000000 in
set_option maxRecDepth 100000 in
theorem law_keep (C : LC p s m meth c b L xs D T q q' aK aV) (W0 : LWS s D T q q' S M H locs) (hr : CR g S) (hm : MR g M) (hw : WG g) {n : Nat} (hn : n + 6 ≤ L) (hl : lv_has ls 4 (LV b q q' n)) (hcs : cells ≤ room_1.cells ∧ slots ≤ room_1.slots)
    (kk : ∀ (g' : Gh) (S' M' : St) (H' : Heap) (locs' : List Loc), CR g' S' → MR g' M' → WG g' → LWS s D T q q' S' M' H' locs' → W p l e room_1 s m #[Value.ref b] below meth c H' locs' cells slots Q (F0 m 1036 ls [])) : W p l e room_1 s m #[Value.ref b] below meth c H locs cells slots Q (F0 m 953 ls []) := by
  obtain ⟨⟨hx, hb, -, hml, hown, hts, -, hA⟩, hX, hbl, hL, -⟩ := id C
  have hbA : ¬ AL s b := Nat.not_le.mpr hbl
  have hin : ∀ k, k < 6 → vp_in (nI n + nI k) L := fun k hk => by rw [nI_add]; exact vp_in_nI (by omega) (by omega)
  refine lv_aload_n hx hb dL_law_953 rfl (lv_at hl 1 rfl) ?_
  refine lv_aload_n hx hb dL_law_954 rfl (lv_at hl 0 rfl) ?_
  refine lv_iload_n hx hb dL_law_955 rfl (lv_at hl 3 rfl) ?_
  refine lv_iconst (v := 1) hx hb dL_law_956 (by decide) ?_
  refine lv_iadd hx hb dL_law_957 ?_
  refine va_sld hx hb hX hbl hbA W0.2.2.2.2 (hin 1 (by omega)) dL_law_958 ?_
  obtain ⟨S1, e1, h1⟩ := c_keep hr hw ((xs (nI n + 1).toNatClampNeg))
  refine y_callC C W0 (As := [.int (xs (nI n + 1).toNatClampNeg)]) (rest := []) (st1 := [.int ((sKeep g ((xs (nI n + 1).toNatClampNeg))).1)]) (jSmoke_keep_ok e1) u664 u665 u666 u38 u667 hdX6_keep rfl ⟨Nat.le_of_ble_eq_true rfl, Nat.le_of_ble_eq_true rfl⟩ ⟨rfl, rfl⟩ hl.1 (Nat.le_of_ble_eq_true rfl) dL_law_959 hcs (fun H locs W0 => ?_) rfl rfl
  refine lv_aload_n hx hb dL_law_962 rfl (lv_at hl 2 rfl) ?_
  refine lv_aload_n hx hb dL_law_963 rfl (lv_at hl 0 rfl) ?_
  refine lv_iload_n hx hb dL_law_964 rfl (lv_at hl 3 rfl) ?_
  refine lv_iconst (v := 1) hx hb dL_law_965 (by decide) ?_
  refine lv_iadd hx hb dL_law_966 ?_
  refine va_sld hx hb hX hbl hbA W0.2.2.2.2 (hin 1 (by omega)) dL_law_967 ?_
  obtain ⟨M1, e2, h2⟩ := m_keep hm hw ((xs (nI n + 1).toNatClampNeg))
  refine y_callM C W0 (As := [.int (xs (nI n + 1).toNatClampNeg)]) (rest := [.int ((sKeep g ((xs (nI n + 1).toNatClampNeg))).1)]) (st1 := [.int ((sKeep g ((xs (nI n + 1).toNatClampNeg))).1), .int ((sKeep g ((xs (nI n + 1).toNatClampNeg))).1)]) (jMod_keep_ok e2) u964 u965 u966 u45 u967 hdX7_keep rfl ⟨Nat.le_of_ble_eq_true rfl, Nat.le_of_ble_eq_true rfl⟩ ⟨rfl, rfl⟩ hl.1 (Nat.le_of_ble_eq_true rfl) dL_law_968 hcs (fun H locs W0 => ?_) rfl rfl
  refine lv_icmp_eq (tgt := 1036) hx hb dL_law_971 (by decide) (fun hc => ?_) (fun hc => ?_)
  · exact kk _ _ _ _ _ h1 h2 (w_keep hw ((xs (nI n + 1).toNatClampNeg))) W0
  · exact absurd rfl hc
set_option maxHeartbeats 4000000 in
set_option maxRecDepth 100000 in
theorem law_back (C : LC p s m meth c b L xs D T q q' aK aV) (W0 : LWS s D T q q' S M H locs) (hr : CR g S) (hm : MR g M) (hw : WG g) {n : Nat} (hn : n + 6 ≤ L) (hl : lv_has ls 4 (LV b q q' n)) (hcs : cells ≤ room_1.cells ∧ slots ≤ room_1.slots)
    (kk : ∀ (g' : Gh) (S' M' : St) (H' : Heap) (locs' : List Loc), CR g' S' → MR g' M' → WG g' → LWS s D T q q' S' M' H' locs' → W p l e room_1 s m #[Value.ref b] below meth c H' locs' cells slots Q (F0 m 1036 ls [])) : W p l e room_1 s m #[Value.ref b] below meth c H locs cells slots Q (F0 m 976 ls []) := by
  obtain ⟨⟨hx, hb, -, hml, hown, hts, -, hA⟩, hX, hbl, hL, -⟩ := id C
  have hbA : ¬ AL s b := Nat.not_le.mpr hbl
  have hin : ∀ k, k < 6 → vp_in (nI n + nI k) L := fun k hk => by rw [nI_add]; exact vp_in_nI (by omega) (by omega)
  refine lv_aload_n hx hb dL_law_976 rfl (lv_at hl 1 rfl) ?_
  refine lv_aload_n hx hb dL_law_977 rfl (lv_at hl 0 rfl) ?_
  refine lv_iload_n hx hb dL_law_978 rfl (lv_at hl 3 rfl) ?_
  refine lv_iconst (v := 1) hx hb dL_law_979 (by decide) ?_
  refine lv_iadd hx hb dL_law_980 ?_
  refine va_sld hx hb hX hbl hbA W0.2.2.2.2 (hin 1 (by omega)) dL_law_981 ?_
  obtain ⟨S1, e1, h1⟩ := c_back hr hw ((xs (nI n + 1).toNatClampNeg))
  refine y_callC C W0 (As := [.int (xs (nI n + 1).toNatClampNeg)]) (rest := []) (st1 := [.int ((sBack g ((xs (nI n + 1).toNatClampNeg))).1)]) (jSmoke_back_ok e1) u672 u673 u674 u38 u675 hdX6_back rfl ⟨Nat.le_of_ble_eq_true rfl, Nat.le_of_ble_eq_true rfl⟩ ⟨rfl, rfl⟩ hl.1 (Nat.le_of_ble_eq_true rfl) dL_law_982 hcs (fun H locs W0 => ?_) rfl rfl
  refine lv_aload_n hx hb dL_law_985 rfl (lv_at hl 2 rfl) ?_
  refine lv_aload_n hx hb dL_law_986 rfl (lv_at hl 0 rfl) ?_
  refine lv_iload_n hx hb dL_law_987 rfl (lv_at hl 3 rfl) ?_
  refine lv_iconst (v := 1) hx hb dL_law_988 (by decide) ?_
  refine lv_iadd hx hb dL_law_989 ?_
  refine va_sld hx hb hX hbl hbA W0.2.2.2.2 (hin 1 (by omega)) dL_law_990 ?_
  obtain ⟨M1, e2, h2⟩ := m_back hm hw ((xs (nI n + 1).toNatClampNeg))
  refine y_callM C W0 (As := [.int (xs (nI n + 1).toNatClampNeg)]) (rest := [.int ((sBack g ((xs (nI n + 1).toNatClampNeg))).1)]) (st1 := [.int ((sBack g ((xs (nI n + 1).toNatClampNeg))).1), .int ((sBack g ((xs (nI n + 1).toNatClampNeg))).1)]) (jMod_back_ok e2) u972 u973 u974 u45 u975 hdX7_back rfl ⟨Nat.le_of_ble_eq_true rfl, Nat.le_of_ble_eq_true rfl⟩ ⟨rfl, rfl⟩ hl.1 (Nat.le_of_ble_eq_true rfl) dL_law_991 hcs (fun H locs W0 => ?_) rfl rfl
  refine lv_icmp_eq (tgt := 1036) hx hb dL_law_994 (by decide) (fun hc => ?_) (fun hc => ?_)
  · exact kk _ _ _ _ _ h1 h2 (w_back hw ((xs (nI n + 1).toNatClampNeg))) W0
  · exact absurd rfl hc
set_option maxHeartbeats 4000000 in
set_option maxRecDepth 100000 in
theorem law_count (C : LC p s m meth c b L xs D T q q' aK aV) (W0 : LWS s D T q q' S M H locs) (hr : CR g S) (hm : MR g M) (hw : WG g) {n : Nat} (hn : n + 6 ≤ L) (hl : lv_has ls 4 (LV b q q' n)) (hcs : cells ≤ room_1.cells ∧ slots ≤ room_1.slots)
    (kk : ∀ (g' : Gh) (S' M' : St) (H' : Heap) (locs' : List Loc), CR g' S' → MR g' M' → WG g' → LWS s D T q q' S' M' H' locs' → W p l e room_1 s m #[Value.ref b] below meth c H' locs' cells slots Q (F0 m 1036 ls [])) : W p l e room_1 s m #[Value.ref b] below meth c H locs cells slots Q (F0 m 999 ls []) := by
  obtain ⟨⟨hx, hb, -, hml, hown, hts, -, hA⟩, hX, hbl, hL, -⟩ := id C
  have hbA : ¬ AL s b := Nat.not_le.mpr hbl
  have hin : ∀ k, k < 6 → vp_in (nI n + nI k) L := fun k hk => by rw [nI_add]; exact vp_in_nI (by omega) (by omega)
  refine lv_aload_n hx hb dL_law_999 rfl (lv_at hl 1 rfl) ?_
  refine lv_aload_n hx hb dL_law_1000 rfl (lv_at hl 0 rfl) ?_
  refine lv_iload_n hx hb dL_law_1001 rfl (lv_at hl 3 rfl) ?_
  refine lv_iconst (v := 1) hx hb dL_law_1002 (by decide) ?_
  refine lv_iadd hx hb dL_law_1003 ?_
  refine va_sld hx hb hX hbl hbA W0.2.2.2.2 (hin 1 (by omega)) dL_law_1004 ?_
  have e1 : jSmoke_count ((xs (nI n + 1).toNatClampNeg)) S = some ((sCount g ((xs (nI n + 1).toNatClampNeg))), S) := c_count hr ((xs (nI n + 1).toNatClampNeg))
  have h1 : CR g S := hr
  refine y_callC C W0 (As := [.int (xs (nI n + 1).toNatClampNeg)]) (rest := []) (st1 := [.int ((sCount g ((xs (nI n + 1).toNatClampNeg))))]) (jSmoke_count_ok e1) u676 u677 u678 u38 u679 hdX6_count rfl ⟨Nat.le_of_ble_eq_true rfl, Nat.le_of_ble_eq_true rfl⟩ ⟨rfl, rfl⟩ hl.1 (Nat.le_of_ble_eq_true rfl) dL_law_1005 hcs (fun H locs W0 => ?_) rfl rfl
  refine lv_aload_n hx hb dL_law_1008 rfl (lv_at hl 2 rfl) ?_
  refine lv_aload_n hx hb dL_law_1009 rfl (lv_at hl 0 rfl) ?_
  refine lv_iload_n hx hb dL_law_1010 rfl (lv_at hl 3 rfl) ?_
  refine lv_iconst (v := 1) hx hb dL_law_1011 (by decide) ?_
  refine lv_iadd hx hb dL_law_1012 ?_
  refine va_sld hx hb hX hbl hbA W0.2.2.2.2 (hin 1 (by omega)) dL_law_1013 ?_
  have e2 : jMod_count ((xs (nI n + 1).toNatClampNeg)) M = some ((sCount g ((xs (nI n + 1).toNatClampNeg))), M) := m_count hm ((xs (nI n + 1).toNatClampNeg))
  have h2 : MR g M := hm
  refine y_callM C W0 (As := [.int (xs (nI n + 1).toNatClampNeg)]) (rest := [.int ((sCount g ((xs (nI n + 1).toNatClampNeg))))]) (st1 := [.int ((sCount g ((xs (nI n + 1).toNatClampNeg)))), .int ((sCount g ((xs (nI n + 1).toNatClampNeg))))]) (jMod_count_ok e2) u976 u977 u978 u45 u979 hdX7_count rfl ⟨Nat.le_of_ble_eq_true rfl, Nat.le_of_ble_eq_true rfl⟩ ⟨rfl, rfl⟩ hl.1 (Nat.le_of_ble_eq_true rfl) dL_law_1014 hcs (fun H locs W0 => ?_) rfl rfl
  refine lv_icmp_eq (tgt := 1036) hx hb dL_law_1017 (by decide) (fun hc => ?_) (fun hc => ?_)
  · exact kk _ _ _ _ _ h1 h2 hw W0
  · exact absurd rfl hc
set_option maxHeartbeats 4000000 in
set_option maxRecDepth 100000 in
theorem law_trace (C : LC p s m meth c b L xs D T q q' aK aV) (W0 : LWS s D T q q' S M H locs) (hr : CR g S) (hm : MR g M) (hw : WG g) {n : Nat} (hn : n + 6 ≤ L) (hl : lv_has ls 4 (LV b q q' n)) (hcs : cells ≤ room_1.cells ∧ slots ≤ room_1.slots)
    (kk : ∀ (g' : Gh) (S' M' : St) (H' : Heap) (locs' : List Loc), CR g' S' → MR g' M' → WG g' → LWS s D T q q' S' M' H' locs' → W p l e room_1 s m #[Value.ref b] below meth c H' locs' cells slots Q (F0 m 1036 ls [])) : W p l e room_1 s m #[Value.ref b] below meth c H locs cells slots Q (F0 m 1022 ls []) := by
  obtain ⟨⟨hx, hb, -, hml, hown, hts, -, hA⟩, hX, hbl, hL, -⟩ := id C
  have hbA : ¬ AL s b := Nat.not_le.mpr hbl
  have hin : ∀ k, k < 6 → vp_in (nI n + nI k) L := fun k hk => by rw [nI_add]; exact vp_in_nI (by omega) (by omega)
  refine lv_aload_n hx hb dL_law_1022 rfl (lv_at hl 1 rfl) ?_
  have e1 : jSmoke_trace  S = some (g.tr, S) := c_trace hr 
  have h1 : CR g S := hr
  refine y_callC C W0 (As := []) (rest := []) (st1 := [.long (g.tr)]) (jSmoke_trace_ok e1) u680 u681 u682 u38 u683 hdX6_trace rfl ⟨Nat.le_of_ble_eq_true rfl, Nat.le_of_ble_eq_true rfl⟩ ⟨rfl, rfl⟩ hl.1 (Nat.le_of_ble_eq_true rfl) dL_law_1023 hcs (fun H locs W0 => ?_) rfl rfl
  refine lv_aload_n hx hb dL_law_1026 rfl (lv_at hl 2 rfl) ?_
  have e2 : jMod_trace  M = some (g.tr, M) := m_trace hm 
  have h2 : MR g M := hm
  refine y_callM C W0 (As := []) (rest := [.long (g.tr)]) (st1 := [.long (g.tr), .long (g.tr)]) (jMod_trace_ok e2) u980 u981 u982 u45 u983 hdX7_trace rfl ⟨Nat.le_of_ble_eq_true rfl, Nat.le_of_ble_eq_true rfl⟩ ⟨rfl, rfl⟩ hl.1 (Nat.le_of_ble_eq_true rfl) dL_law_1027 hcs (fun H locs W0 => ?_) rfl rfl
  refine W.lcmp hx hb dL_law_1030 ?_
  refine lv_if_eq (tgt := 1036) hx hb dL_law_1031 (by decide) (fun hc => ?_) (fun hc => ?_)
  · exact kk _ _ _ _ _ h1 h2 hw W0
  · exact absurd ((lg_cmp_eq _ _).mpr rfl) hc
end LCASES
