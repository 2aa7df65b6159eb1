section
variable {l : Launch} {D : va_G} {q aK aV : Nat → Nat} {T : Nat → ClassId}
set_option maxHeartbeats 4000000 in
theorem jStr_coder_ok {i : Nat} (hi : i < 3) (S : St) : XMet l D 40 (cellC T q) q T (ExC aK aV) yJ0_coder_7d493 cJ0_coder_7d493 1 (some .byte) ({ frames := 0, cells := 0, slots := 0, locals := 0 }) [.ref (aK i)] S (some (.int 0)) S := by
  refine x_enter (own := RJ0) (by decide +kernel) rfl (Nat.le_of_ble_eq_true rfl) (fun p e s m below meth c A B ls hw hl0 => ?_)
  have hl : lv_has ls 1 [(0, .ref (aK i))] := hl0
  obtain ⟨hx, hb, hr, hml, hown, hts, hlk, hA⟩ := id B
  obtain ⟨hK, hP, hD, hS, hX⟩ := id hw
  refine va_gets hx hb hX.2.1 hS hown (hts _ u316) (fun _ h => h) dJ0_coder_7d493_0 ?_
  refine lv_if_eq (tgt := 13) hx hb dJ0_coder_7d493_3 (by decide) (fun hc => ?_) (fun hc => ?_)
  · exact absurd hc (by decide)
  · refine lv_aload_n hx hb dJ0_coder_7d493_6 rfl (lv_at hl 0 rfl) ?_
    refine vk_getf hx hb (hX.1.1 i hi).2.1 hS hown (hts _ u986) (fun _ h => h) dJ0_coder_7d493_7 ?_
    refine lv_goto (tgt := 14) hx hb dJ0_coder_7d493_10 (by decide) ?_
    exact W.zret (v := 0) hx hb hr rfl (fun t ht hW => ⟨⟨rfl, by rw [ht]; exact hP, va_K.moved hW.alike hK⟩, hS.F ht⟩) hS.2.2 dJ0_coder_7d493_14 hlk
set_option maxHeartbeats 4000000 in
theorem jStr_isLatin1_ok {i : Nat} (hi : i < 3) (S : St) : XMet l D 40 (cellC T q) q T (ExC aK aV) yJ0_isLatin1_aae02 cJ0_isLatin1_aae02 1 (some .boolean) ({ frames := 0, cells := 0, slots := 0, locals := 0 }) [.ref (aK i)] S (some (.int 1)) S := by
  refine x_enter (own := RJ0) (by decide +kernel) rfl (Nat.le_of_ble_eq_true rfl) (fun p e s m below meth c A B ls hw hl0 => ?_)
  have hl : lv_has ls 1 [(0, .ref (aK i))] := hl0
  obtain ⟨hx, hb, hr, hml, hown, hts, hlk, hA⟩ := id B
  obtain ⟨hK, hP, hD, hS, hX⟩ := id hw
  refine va_gets hx hb hX.2.1 hS hown (hts _ u316) (fun _ h => h) dJ0_isLatin1_aae02_0 ?_
  refine lv_if_eq (tgt := 17) hx hb dJ0_isLatin1_aae02_3 (by decide) (fun hc => ?_) (fun hc => ?_)
  · exact absurd hc (by decide)
  · refine lv_aload_n hx hb dJ0_isLatin1_aae02_6 rfl (lv_at hl 0 rfl) ?_
    refine vk_getf hx hb (hX.1.1 i hi).2.1 hS hown (hts _ u986) (fun _ h => h) dJ0_isLatin1_aae02_7 ?_
    refine lv_if_ne (tgt := 17) hx hb dJ0_isLatin1_aae02_10 (by decide) (fun hc => ?_) (fun hc => ?_)
    · exact absurd rfl hc
    · refine lv_iconst (v := 1) hx hb dJ0_isLatin1_aae02_13 (by decide) ?_
      refine lv_goto (tgt := 18) hx hb dJ0_isLatin1_aae02_14 (by decide) ?_
      exact W.zret (v := 1) hx hb hr rfl (fun t ht hW => ⟨⟨rfl, by rw [ht]; exact hP, va_K.moved hW.alike hK⟩, hS.F ht⟩) hS.2.2 dJ0_isLatin1_aae02_18 hlk
set_option maxHeartbeats 4000000 in
theorem jStr_length_ok {i : Nat} (hi : i < 3) (S : St) : XMet l D 40 (cellC T q) q T (ExC aK aV) yJ0_length_8abf5 cJ0_length_8abf5 1 (some .int) ({ frames := 1, cells := 0, slots := 0, locals := 20 }) [.ref (aK i)] S (some (.int (Int32.ofNat (lenS.getD i 0)))) S := by
  refine x_enter (own := RJ0) (by decide +kernel) rfl (Nat.le_of_ble_eq_true rfl) (fun p e s m below meth c A B ls hw hl0 => ?_)
  have hl : lv_has ls 1 [(0, .ref (aK i))] := hl0
  obtain ⟨hx, hb, hr, hml, hown, hts, hlk, hA⟩ := id B
  obtain ⟨hK, hP, hD, hS, hX⟩ := id hw
  refine lv_aload_n hx hb dJ0_length_8abf5_0 rfl (lv_at hl 0 rfl) ?_
  refine vk_getf hx hb (hX.1.1 i hi).2.2.1 hS hown (hts _ u985) (fun _ h => h) dJ0_length_8abf5_1 ?_
  refine va_tlen hx hb (hX.1.1 i hi).2.2.2 hS (v := Int32.ofNat (lenS.getD i 0)) rfl dJ0_length_8abf5_4 ?_
  refine lv_aload_n hx hb dJ0_length_8abf5_5 rfl (lv_at hl 0 rfl) ?_
  refine x_callStr B ExC_ok hX.1 hi hw (As := []) (rest := [.int (Int32.ofNat (lenS.getD i 0))]) (st1 := [.int 0, .int (Int32.ofNat (lenS.getD i 0))]) (jStr_coder_ok hi S) u312 u313 u314 u46 u315 ⟨rfl, by decide +kernel⟩ rfl ⟨Nat.le_of_ble_eq_true rfl, Nat.le_of_ble_eq_true rfl⟩ ⟨rfl, rfl⟩ hl.1 (Nat.le_of_ble_eq_true rfl) dJ0_length_8abf5_6 (fun H locs hw => ?_) rfl rfl
  refine lv_ishr hx hb dJ0_length_8abf5_9 ?_
  obtain ⟨hK, hP, hD, hS, -⟩ := hw
  exact W.iret hx hb hr (fun t ht hW => ⟨⟨by rw [sb_shr0], by rw [ht]; exact hP, va_K.moved hW.alike hK⟩, hS.F ht⟩) hS.2.2 dJ0_length_8abf5_10 hlk
set_option maxHeartbeats 4000000 in
theorem jPre_check_ok {k n : Int32} {f : Value} (hf : f = .null ∨ ∃ t, f = .ref t) (h0 : ¬ k < 0) (h1 : k < n) (S : St) : XMet l D 40 (cellC T q) q T (ExC aK aV) yJ3_checkIndex_8e157 cJ3_checkIndex_8e157 3 (some .int) ({ frames := 0, cells := 0, slots := 0, locals := 0 }) [.int k, .int n, f] S (some (.int k)) S := by
  rcases hf with rfl | ⟨t, rfl⟩
  all_goals
    refine x_enter (own := RJ3) (by decide +kernel) rfl (Nat.le_of_ble_eq_true rfl) (fun p e s m below meth c A B ls hw hl0 => ?_)
    have hl : lv_has ls 3 [(0, .int k), (1, .int n)] := lv_sub hl0 [0, 1] rfl
    obtain ⟨hx, hb, hr, hml, hown, hts, hlk, hA⟩ := id B
    obtain ⟨hK, hP, hD, hS, hX⟩ := id hw
    refine lv_iload_n hx hb dJ3_checkIndex_8e157_0 rfl (lv_at hl 0 rfl) ?_
    refine lv_if_lt (tgt := 9) hx hb dJ3_checkIndex_8e157_1 (by decide) (fun hc => absurd hc h0) (fun hc => ?_)
    refine lv_iload_n hx hb dJ3_checkIndex_8e157_4 rfl (lv_at hl 0 rfl) ?_
    refine lv_iload_n hx hb dJ3_checkIndex_8e157_5 rfl (lv_at hl 1 rfl) ?_
    refine lv_icmp_lt (tgt := 16) hx hb dJ3_checkIndex_8e157_6 (by decide) (fun hc => ?_) (fun hc => absurd h1 hc)
    refine lv_iload_n hx hb dJ3_checkIndex_8e157_16 rfl (lv_at hl 0 rfl) ?_
    exact W.iret hx hb hr (fun t ht hW => ⟨⟨rfl, by rw [ht]; exact hP, va_K.moved hW.alike hK⟩, hS.F ht⟩) hS.2.2 dJ3_checkIndex_8e157_17 hlk
set_option maxHeartbeats 4000000 in
theorem jStr_check_ok {k n : Int32} (h0 : ¬ k < 0) (h1 : k < n) (S : St) : XMet l D 40 (cellC T q) q T (ExC aK aV) yJ0_checkIndex_df160 cJ0_checkIndex_df160 2 none ({ frames := 1, cells := 0, slots := 0, locals := 22 }) [.int k, .int n] S none S := by
  refine x_enter (own := RJ0) (by decide +kernel) rfl (Nat.le_of_ble_eq_true rfl) (fun p e s m below meth c A B ls hw hl0 => ?_)
  have hl : lv_has ls 2 [(0, .int k), (1, .int n)] := hl0
  obtain ⟨hx, hb, hr, hml, hown, hts, hlk, hA⟩ := id B
  obtain ⟨hK, hP, hD, hS, hX⟩ := id hw
  refine lv_iload_n hx hb dJ0_checkIndex_df160_0 rfl (lv_at hl 0 rfl) ?_
  refine lv_iload_n hx hb dJ0_checkIndex_df160_1 rfl (lv_at hl 1 rfl) ?_
  rcases hX.2.2.1 with hz | ⟨t, hz⟩
  · refine va_gets (v := .null) hx hb hz hS hown (hts _ u332) (fun _ h => h) dJ0_checkIndex_df160_2 ?_
    refine x_callS B ExC_ok hw (n := 3) (As := [.int k, .int n, .null]) (rest := []) (st1 := [.int k]) (jPre_check_ok (Or.inl rfl) h0 h1 S) u334 u335 u48 u336 ⟨by decide +kernel, by decide +kernel, by decide +kernel⟩ rfl ⟨Nat.le_of_ble_eq_true rfl, Nat.le_of_ble_eq_true rfl⟩ ⟨rfl, rfl⟩ hl.1 (Nat.le_of_ble_eq_true rfl) dJ0_checkIndex_df160_5 (fun H locs hw => ?_) rfl rfl
    refine lv_pop hx hb dJ0_checkIndex_df160_8 rfl ?_
    exact x_vret B hw rfl dJ0_checkIndex_df160_9
  · refine va_gets (v := .ref t) hx hb hz hS hown (hts _ u332) (fun _ h => h) dJ0_checkIndex_df160_2 ?_
    refine x_callS B ExC_ok hw (n := 3) (As := [.int k, .int n, .ref t]) (rest := []) (st1 := [.int k]) (jPre_check_ok (Or.inr ⟨_, rfl⟩) h0 h1 S) u334 u335 u48 u336 ⟨by decide +kernel, by decide +kernel, by decide +kernel⟩ rfl ⟨Nat.le_of_ble_eq_true rfl, Nat.le_of_ble_eq_true rfl⟩ ⟨rfl, rfl⟩ hl.1 (Nat.le_of_ble_eq_true rfl) dJ0_checkIndex_df160_5 (fun H locs hw => ?_) rfl rfl
    refine lv_pop hx hb dJ0_checkIndex_df160_8 rfl ?_
    exact x_vret B hw rfl dJ0_checkIndex_df160_9
set_option maxHeartbeats 4000000 in
theorem jLat_charAt_ok {i : Nat} (hi : i < 3) {k : Int32} (hin : vp_in k (lenS.getD i 0)) (h1 : k < Int32.ofNat (lenS.getD i 0)) (S : St) : XMet l D 40 (cellC T q) q T (ExC aK aV) yJ1_charAt_3b067 cJ1_charAt_3b067 2 (some .char) ({ frames := 2, cells := 0, slots := 0, locals := 43 }) [.ref (aV i), .int k] S (some (.int (sc_ch i k.toNatClampNeg))) S := by
  refine x_enter (own := RJ1) (by decide +kernel) rfl (Nat.le_of_ble_eq_true rfl) (fun p e s m below meth c A B ls hw hl0 => ?_)
  have hl : lv_has ls 2 [(0, .ref (aV i)), (1, .int k)] := hl0
  obtain ⟨hx, hb, hr, hml, hown, hts, hlk, hA⟩ := id B
  obtain ⟨hK, hP, hD, hS, hX⟩ := id hw
  refine lv_iload_n hx hb dJ1_charAt_3b067_0 rfl (lv_at hl 1 rfl) ?_
  refine lv_aload_n hx hb dJ1_charAt_3b067_1 rfl (lv_at hl 0 rfl) ?_
  refine va_tlen hx hb (hX.1.1 i hi).2.2.2 hS (v := Int32.ofNat (lenS.getD i 0)) rfl dJ1_charAt_3b067_2 ?_
  refine x_callS B ExC_ok hw (n := 2) (As := [.int k, .int (Int32.ofNat (lenS.getD i 0))]) (rest := []) (st1 := []) (jStr_check_ok (fun z => hin (Or.inl z)) h1 S) u329 u330 u46 u331 ⟨by decide +kernel, by decide +kernel, by decide +kernel⟩ rfl ⟨Nat.le_of_ble_eq_true rfl, Nat.le_of_ble_eq_true rfl⟩ ⟨rfl, rfl⟩ hl.1 (Nat.le_of_ble_eq_true rfl) dJ1_charAt_3b067_3 (fun H locs hw => ?_) rfl rfl
  refine lv_aload_n hx hb dJ1_charAt_3b067_6 rfl (lv_at hl 0 rfl) ?_
  refine lv_iload_n hx hb dJ1_charAt_3b067_7 rfl (lv_at hl 1 rfl) ?_
  obtain ⟨hK, hP, hD, hS, -⟩ := hw
  refine va_tb hx hb (hX.1.1 i hi).2.2.2 hS hin rfl dJ1_charAt_3b067_8 ?_
  refine lv_sipush (v := 255) hx hb dJ1_charAt_3b067_9 (by decide) ?_
  refine lv_iand hx hb dJ1_charAt_3b067_12 ?_
  refine lv_i2c (v := sc_ch i k.toNatClampNeg) hx hb dJ1_charAt_3b067_13 (sc_c2 _) ?_
  exact W.zret hx hb hr (sc_nar _) (fun t ht hW => ⟨⟨rfl, by rw [ht]; exact hP, va_K.moved hW.alike hK⟩, hS.F ht⟩) hS.2.2 dJ1_charAt_3b067_14 hlk
theorem len_lt : ∀ i, i < 3 → lenS.getD i 0 < 100 := by decide
theorem vp_lt {k : Int32} {n : Nat} (hn : n < 100) (hin : vp_in k n) : k < Int32.ofNat n := by
  obtain ⟨j, hj, rfl⟩ := nI_of (fun z => hin (Or.inl z))
  have : ¬ n ≤ (nI j).toNatClampNeg := fun z => hin (Or.inr z)
  rw [nI_clamp hj] at this
  exact nI_lt (by omega) (by omega)
set_option maxHeartbeats 4000000 in
theorem jStr_charAt_ok {i : Nat} (hi : i < 3) (S : St) (k : Int32) (hin : vp_in k (lenS.getD i 0)) : XMet l D 40 (cellC T q) q T (ExC aK aV) yJ0_charAt_5068e cJ0_charAt_5068e 2 (some .char) ({ frames := 3, cells := 0, slots := 0, locals := 64 }) [.ref (aK i), .int k] S (some (.int (sc_ch i k.toNatClampNeg))) S := by
  have h1 : k < Int32.ofNat (lenS.getD i 0) := vp_lt (len_lt i hi) hin
  refine x_enter (own := RJ0) (by decide +kernel) rfl (Nat.le_of_ble_eq_true rfl) (fun p e s m below meth c A B ls hw hl0 => ?_)
  have hl : lv_has ls 2 [(0, .ref (aK i)), (1, .int k)] := hl0
  obtain ⟨hx, hb, hr, hml, hown, hts, hlk, hA⟩ := id B
  have hX := hw.2.2.2.2
  refine lv_aload_n hx hb dJ0_charAt_5068e_0 rfl (lv_at hl 0 rfl) ?_
  refine x_callStr B ExC_ok hX.1 hi hw (As := []) (rest := []) (st1 := [.int 1]) (jStr_isLatin1_ok hi S) u322 u323 u324 u46 u325 ⟨rfl, by decide +kernel⟩ rfl ⟨Nat.le_of_ble_eq_true rfl, Nat.le_of_ble_eq_true rfl⟩ ⟨rfl, rfl⟩ hl.1 (Nat.le_of_ble_eq_true rfl) dJ0_charAt_5068e_1 (fun H locs hw => ?_) rfl rfl
  refine lv_if_eq (tgt := 16) hx hb dJ0_charAt_5068e_4 (by decide) (fun hc => absurd hc (by decide)) (fun hc => ?_)
  refine lv_aload_n hx hb dJ0_charAt_5068e_7 rfl (lv_at hl 0 rfl) ?_
  refine vk_getf hx hb (hX.1.1 i hi).2.2.1 hw.2.2.2.1 hown (hts _ u985) (fun _ h => h) dJ0_charAt_5068e_8 ?_
  refine lv_iload_n hx hb dJ0_charAt_5068e_11 rfl (lv_at hl 1 rfl) ?_
  refine x_callS B ExC_ok hw (n := 2) (As := [.ref (aV i), .int k]) (rest := []) (st1 := [.int (sc_ch i k.toNatClampNeg)]) (jLat_charAt_ok hi hin h1 S) u326 u327 u47 u328 ⟨by decide +kernel, by decide +kernel, by decide +kernel⟩ rfl ⟨Nat.le_of_ble_eq_true rfl, Nat.le_of_ble_eq_true rfl⟩ ⟨rfl, rfl⟩ hl.1 (Nat.le_of_ble_eq_true rfl) dJ0_charAt_5068e_12 (fun H locs hw => ?_) rfl rfl
  obtain ⟨hK, hP, hD, hS, -⟩ := hw
  exact W.zret hx hb hr (sc_nar _) (fun t ht hW => ⟨⟨rfl, by rw [ht]; exact hP, va_K.moved hW.alike hK⟩, hS.F ht⟩) hS.2.2 dJ0_charAt_5068e_15 hlk
end
