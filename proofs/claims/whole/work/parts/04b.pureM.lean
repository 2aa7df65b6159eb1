def jMod_in (x0 : Int32) (x1 : Int32) (x2 : Int32) (S : St) : Option (Int32 × St) :=
  if x0 < x1 then (x_nr 0 (some (0, S))) else (if x2 < x0 then (x_nr 0 (some (0, S))) else (x_nr 1 (some (1, S))))
def jMod_type_b32 (K32 : Int64 → Int32 → St → Option (Int32 × St)) (y1 : Int64) (x4 : Int32) (S : St) : Option (Int32 × St) :=
  if x4 < 0 then (some (S.1 0 2, S)) else (x_gd 300 (S.1 0 2) (x_lt (upI S 1 (Int32.toNatClampNeg (S.1 0 2)) (vp_nar .byte (x_i2b (Int64.toInt32 ((x_lshr y1 (8 * x4)) &&& 255))))) (fun S4 => x_lt (upI S4 0 2 ((S4.1 0 2) + 1)) (fun S5 => K32 y1 (x4 + (-1)) S5))))
def jMod_type_h32 : Nat → Int64 → Int32 → St → Option (Int32 × St)
  | 0, _, _, _ => none
  | n + 1, y1, x4, S => jMod_type_b32 (jMod_type_h32 n) y1 x4 S
def jMod_type (y1 : Int64) (x3 : Int32) (S : St) : Option (Int32 × St) :=
  x_bd (jMod_in x3 1 8 S) (fun v2 S1 => if v2 = 0 then (some ((-1), S1)) else (if ((S1.1 0 2) + x3) ≤ 300 then (x_lt (x3 - 1) (fun v3 => jMod_type_h32 FU y1 v3 S1)) else (some ((-3), S1))))
def jMod_clear (S : St) : Option (Int32 × St) :=
  x_lt (S.1 0 2) (fun v1 => x_lt (upI S 0 2 0) (fun S2 => some (v1, S2)))
def jMod_here (S : St) : Option (Int32 × St) :=
  if (S.1 0 2) ≤ (S.1 0 10) then (some ((-1), S)) else (x_ld (S.1 1) 300 (S.1 0 10) (fun v1 => some (v1 &&& 255, S)))
def jMod_meaning (x0 : Int32) (S : St) : Option (Int32 × St) :=
  if x0 = 4786 then (some (2, S)) else (if x0 = 85814 then (some (1, S)) else (if x0 = 4562600 then (some (0, S)) else (some (6, S))))
def jMod_next_b287 (s0 : Int32) (S : St) : Option (St) :=
  x_lt (upI S 0 12 s0) (fun S12 => some S12)
def jMod_next_b258 (s0 : Int32) (S : St) : Option (St) :=
  x_lt (upI S 0 12 s0) (fun S17 => some S17)
def jMod_next_b207 (K161 : Int32 → St → Option (St)) (x1 : Int32) (s0 : Int32) (S : St) : Option (St) :=
  x_lt (upI S 0 13 s0) (fun S20 => x_lt (upI S20 0 10 ((S20.1 0 10) + 1)) (fun S21 => K161 x1 S21))
def jMod_next_b161 (K161 : Int32 → St → Option (St)) (x1 : Int32) (S : St) : Option (St) :=
  x_bd (jMod_here S) (fun v14 S13 => x_bd (jMod_in v14 48 57 S13) (fun v16 S15 => if v16 = 0 then (if 99 < (S15.1 0 13) then (jMod_next_b258 6 S15) else (if x1 = 48 then (if ((S15.1 0 10) - (S15.1 0 11)) ≤ 1 then (jMod_next_b258 4 S15) else (jMod_next_b258 6 S15)) else (jMod_next_b258 4 S15))) else (if (S15.1 0 13) ≤ 99 then (x_bd (jMod_here S15) (fun v19 S18 => jMod_next_b207 K161 x1 (((10 * (S15.1 0 13)) + v19) - 48) S18)) else (jMod_next_b207 K161 x1 (S15.1 0 13) S15))))
def jMod_next_h161 : Nat → Int32 → St → Option (St)
  | 0, _, _ => none
  | n + 1, x1, S => jMod_next_b161 (jMod_next_h161 n) x1 S
def jMod_next_b141 (s0 : Int32) (S : St) : Option (St) :=
  x_bd (jMod_meaning s0 S) (fun v27 S26 => x_lt (upI S26 0 12 v27) (fun S28 => some S28))
def jMod_next_b108 (K65 : Int32 → St → Option (St)) (s0 : Int32) (S : St) : Option (St) :=
  x_lt (upI S 0 10 ((S.1 0 10) + 1)) (fun S29 => K65 s0 S29)
def jMod_next_b65 (K65 : Int32 → St → Option (St)) (x2 : Int32) (S : St) : Option (St) :=
  x_bd (jMod_here S) (fun v23 S22 => x_bd (jMod_in v23 97 122 S22) (fun v25 S24 => if v25 = 0 then (if ((S24.1 0 10) - (S24.1 0 11)) ≤ 5 then (jMod_next_b141 x2 S24) else (jMod_next_b141 0 S24)) else (if 5 ≤ ((S24.1 0 10) - (S24.1 0 11)) then (jMod_next_b108 K65 0 S24) else (x_bd (jMod_here S24) (fun v31 S30 => jMod_next_b108 K65 (((27 * x2) + v31) - 96) S30)))))
def jMod_next_h65 : Nat → Int32 → St → Option (St)
  | 0, _, _ => none
  | n + 1, x2, S => jMod_next_b65 (jMod_next_h65 n) x2 S
def jMod_next_b0 (K0 : St → Option (St)) (S : St) : Option (St) :=
  x_bd (jMod_here S) (fun v2 S1 => if v2 = 32 then (x_lt (upI S1 0 10 ((S1.1 0 10) + 1)) (fun S33 => K0 S33)) else (x_lt (upI S1 0 11 (S1.1 0 10)) (fun S3 => x_lt (upI S3 0 13 0) (fun S4 => x_bd (jMod_here S4) (fun v6 S5 => if 0 ≤ v6 then (x_bd (jMod_in v6 97 122 S5) (fun v8 S7 => if v8 = 0 then (x_bd (jMod_in v6 48 57 S7) (fun v10 S9 => if v10 = 0 then (x_lt (upI S9 0 10 ((S9.1 0 10) + 1)) (fun S11 => if v6 = 59 then (jMod_next_b287 5 S11) else (jMod_next_b287 6 S11))) else (jMod_next_h161 FU v6 S9))) else (jMod_next_h65 FU 0 S7))) else (x_lt (upI S5 0 12 3) (fun S32 => some S32)))))))
def jMod_next_h0 : Nat → St → Option (St)
  | 0, _ => none
  | n + 1, S => jMod_next_b0 (jMod_next_h0 n) S
def jMod_next (S : St) : Option (St) := jMod_next_h0 FU S
def jMod_due (x1 : Int32) (S : St) : Option (Int32 × St) :=
  x_lt (S.1 0 13) (fun v1 => if (S.1 0 14) = (-9) then (if x1 = 0 then (x_lt (upI S 0 14 (S.1 0 11)) (fun S2 => some (v1, S2))) else (x_bv (jMod_next S) (fun S3 => some (v1, S3)))) else (some (v1, S)))
def jMod_number_b26 (s0 : Int32) (S : St) : Option (Int32 × St) :=
  x_bd (jMod_due s0 S) (fun v2 S1 => some (v2, S1))
def jMod_number (x1 : Int32) (S : St) : Option (Int32 × St) :=
  if (S.1 0 12) = 4 then (x_bd (jMod_in (S.1 0 13) 0 x1 S) (fun v4 S3 => if v4 = 0 then (jMod_number_b26 0 S3) else (jMod_number_b26 1 S3))) else (jMod_number_b26 0 S)
def jMod_readItem_b235 (s0 : Int32) (S : St) : Option (St) :=
  x_bd (jMod_due s0 S) (fun v9 S8 => some S8)
def jMod_readItem_b221 (S : St) : Option (St) :=
  if (S.1 0 12) = 5 then (jMod_readItem_b235 1 S) else (jMod_readItem_b235 0 S)
def jMod_readItem_b141 (K141 : Int32 → Int32 → St → Option (St)) (x2 : Int32) (x3 : Int32) (S : St) : Option (St) :=
  if 5 ≤ x3 then (x_bd (jMod_number 7 S) (fun v13 S12 => x_gd 16 x2 (x_lt (upI S12 6 (Int32.toNatClampNeg x2) v13) (fun S14 => x_bd (jMod_number 7 S14) (fun v16 S15 => x_gd 16 x2 (x_lt (upI S15 7 (Int32.toNatClampNeg x2) v16) (fun S17 => x_ld (S17.1 4) 2 1 (fun v18 => x_gd 2 1 (x_lt (upI S17 4 (Int32.toNatClampNeg 1) (v18 + 1)) (fun S19 => jMod_readItem_b221 S19)))))))))) else (x_bd (jMod_number 9 S) (fun v21 S20 => x_gd 80 ((5 * x2) + x3) (x_lt (upI S20 5 (Int32.toNatClampNeg ((5 * x2) + x3)) v21) (fun S22 => K141 x2 (x3 + 1) S22))))
def jMod_readItem_h141 : Nat → Int32 → Int32 → St → Option (St)
  | 0, _, _, _ => none
  | n + 1, x2, x3, S => jMod_readItem_b141 (jMod_readItem_h141 n) x2 x3 S
def jMod_readItem_b84 (K84 : Int32 → Int32 → St → Option (St)) (x2 : Int32) (x3 : Int32) (S : St) : Option (St) :=
  if 5 ≤ x3 then (x_ld (S.1 2) 2 1 (fun v25 => x_gd 2 1 (x_lt (upI S 2 (Int32.toNatClampNeg 1) (v25 + 1)) (fun S26 => jMod_readItem_b221 S26)))) else (x_bd (jMod_number 9 S) (fun v28 S27 => x_gd 60 ((5 * x2) + x3) (x_lt (upI S27 3 (Int32.toNatClampNeg ((5 * x2) + x3)) v28) (fun S29 => K84 x2 (x3 + 1) S29))))
def jMod_readItem_h84 : Nat → Int32 → Int32 → St → Option (St)
  | 0, _, _, _ => none
  | n + 1, x2, x3, S => jMod_readItem_b84 (jMod_readItem_h84 n) x2 x3 S
def jMod_readItem_b54 (x1 : Int32) (s0 : Int32) (S : St) : Option (St) :=
  x_bd (jMod_due s0 S) (fun v3 S2 => if (S2.1 0 14) = (-9) then (if x1 = 0 then (x_ld (S2.1 2) 2 1 (fun v23 => x_lt (6 + v23) (fun v24 => jMod_readItem_h84 FU v24 0 S2))) else (if x1 = 1 then (x_ld (S2.1 4) 2 1 (fun v10 => x_lt (8 + v10) (fun v11 => jMod_readItem_h141 FU v11 0 S2))) else (x_bd (jMod_number 5 S2) (fun v5 S4 => x_gd 2 1 (x_lt (upI S4 8 (Int32.toNatClampNeg 1) v5) (fun S6 => x_lt (upI S6 0 15 1) (fun S7 => jMod_readItem_b221 S7))))))) else (some S2))
def jMod_readItem_b37 (x1 : Int32) (S : St) : Option (St) :=
  if x1 = 2 then (if (S.1 0 15) = 0 then (jMod_readItem_b54 x1 1 S) else (jMod_readItem_b54 x1 0 S)) else (jMod_readItem_b54 x1 0 S)
def jMod_readItem_b21 (x1 : Int32) (S : St) : Option (St) :=
  if x1 = 1 then (x_ld (S.1 4) 2 1 (fun v30 => if v30 < 8 then (jMod_readItem_b54 x1 1 S) else (jMod_readItem_b37 x1 S))) else (jMod_readItem_b37 x1 S)
def jMod_readItem (S : St) : Option (St) :=
  x_lt (S.1 0 12) (fun v1 => if v1 = 0 then (x_ld (S.1 2) 2 1 (fun v31 => if v31 < 6 then (jMod_readItem_b54 v1 1 S) else (jMod_readItem_b21 v1 S))) else (jMod_readItem_b21 v1 S))
def jMod_valley_b171 (K171 : Int32 → Int32 → St → Option (Int32 × St)) (x1 : Int32) (x2 : Int32) (S : St) : Option (Int32 × St) :=
  if 8 ≤ x2 then (x_ld (S.1 8) 2 1 (fun v12 => x_gd 219 30 (x_lt (upI S 9 (Int32.toNatClampNeg 30) v12) (fun S13 => x_gd 219 32 (x_lt (upI S13 9 (Int32.toNatClampNeg 32) 0) (fun S14 => x_gd 2 0 (x_lt (upI S14 10 (Int32.toNatClampNeg 0) (vp_nar .boolean 0)) (fun S15 => x_gd 2 1 (x_lt (upI S15 10 (Int32.toNatClampNeg 1) (vp_nar .boolean 0)) (fun S16 => x_lt (upI S16 0 2 0) (fun S17 => some (x1, S17)))))))))))) else (x_ld (S.1 6) 16 (8 + x2) (fun v18 => x_gd 16 x2 (x_lt (upI S 6 (Int32.toNatClampNeg x2) v18) (fun S19 => x_ld (S19.1 7) 16 (8 + x2) (fun v20 => x_gd 16 x2 (x_lt (upI S19 7 (Int32.toNatClampNeg x2) v20) (fun S21 => K171 x1 (x2 + 1) S21)))))))
def jMod_valley_h171 : Nat → Int32 → Int32 → St → Option (Int32 × St)
  | 0, _, _, _ => none
  | n + 1, x1, x2, S => jMod_valley_b171 (jMod_valley_h171 n) x1 x2 S
def jMod_valley_b142 (K142 : Int32 → Int32 → St → Option (Int32 × St)) (x1 : Int32) (x2 : Int32) (S : St) : Option (Int32 × St) :=
  if 40 ≤ x2 then (jMod_valley_h171 FU x1 0 S) else (x_ld (S.1 5) 80 (40 + x2) (fun v22 => x_gd 80 x2 (x_lt (upI S 5 (Int32.toNatClampNeg x2) v22) (fun S23 => K142 x1 (x2 + 1) S23))))
def jMod_valley_h142 : Nat → Int32 → Int32 → St → Option (Int32 × St)
  | 0, _, _, _ => none
  | n + 1, x1, x2, S => jMod_valley_b142 (jMod_valley_h142 n) x1 x2 S
def jMod_valley_b113 (K113 : Int32 → Int32 → St → Option (Int32 × St)) (x1 : Int32) (x2 : Int32) (S : St) : Option (Int32 × St) :=
  if 30 ≤ x2 then (jMod_valley_h142 FU x1 0 S) else (x_ld (S.1 3) 60 (30 + x2) (fun v24 => x_gd 219 x2 (x_lt (upI S 9 (Int32.toNatClampNeg x2) v24) (fun S25 => K113 x1 (x2 + 1) S25))))
def jMod_valley_h113 : Nat → Int32 → Int32 → St → Option (Int32 × St)
  | 0, _, _, _ => none
  | n + 1, x1, x2, S => jMod_valley_b113 (jMod_valley_h113 n) x1 x2 S
def jMod_valley_b70 (x1 : Int32) (S : St) : Option (Int32 × St) :=
  if (S.1 0 14) = (-9) then (x_ld (S.1 2) 2 1 (fun v8 => x_gd 2 0 (x_lt (upI S 2 (Int32.toNatClampNeg 0) v8) (fun S9 => x_ld (S9.1 4) 2 1 (fun v10 => x_gd 2 0 (x_lt (upI S9 4 (Int32.toNatClampNeg 0) v10) (fun S11 => jMod_valley_h113 FU x1 0 S11))))))) else (some ((-10) - (S.1 0 14), S))
def jMod_valley_b43 (K43 : Int32 → St → Option (Int32 × St)) (x1 : Int32) (S : St) : Option (Int32 × St) :=
  if (S.1 0 14) = (-9) then (if (S.1 0 12) = 3 then (jMod_valley_b70 x1 S) else (x_bv (jMod_readItem S) (fun S26 => K43 (x1 + 1) S26))) else (jMod_valley_b70 x1 S)
def jMod_valley_h43 : Nat → Int32 → St → Option (Int32 × St)
  | 0, _, _ => none
  | n + 1, x1, S => jMod_valley_b43 (jMod_valley_h43 n) x1 S
def jMod_valley (S : St) : Option (Int32 × St) :=
  x_lt (upI S 0 10 0) (fun S1 => x_lt (upI S1 0 14 (-9)) (fun S2 => x_gd 2 1 (x_lt (upI S2 2 (Int32.toNatClampNeg 1) 0) (fun S3 => x_gd 2 1 (x_lt (upI S3 4 (Int32.toNatClampNeg 1) 0) (fun S4 => x_gd 2 1 (x_lt (upI S4 8 (Int32.toNatClampNeg 1) 0) (fun S5 => x_lt (upI S5 0 15 0) (fun S6 => x_bv (jMod_next S6) (fun S7 => jMod_valley_h43 FU 0 S7))))))))))
def jMod_isHouse (x1 : Int32) (S : St) : Option (Int32 × St) :=
  x_ld (S.1 2) 2 0 (fun v1 => x_bd (jMod_in x1 0 (v1 - 1) S) (fun v3 S2 => x_nr v3 (some (v3, S2))))
def jMod_storeOf_b4 (K4 : Int32 → Int32 → Int32 → St → Option (Int32 × St)) (x1 : Int32) (x2 : Int32) (x3 : Int32) (S : St) : Option (Int32 × St) :=
  if 5 ≤ x3 then (some (x2, S)) else (x_ld (S.1 9) 219 ((5 * x1) + x3) (fun v1 => x_lt (x2 + v1) (fun v2 => K4 x1 v2 (x3 + 1) S)))
def jMod_storeOf_h4 : Nat → Int32 → Int32 → Int32 → St → Option (Int32 × St)
  | 0, _, _, _, _ => none
  | n + 1, x1, x2, x3, S => jMod_storeOf_b4 (jMod_storeOf_h4 n) x1 x2 x3 S
def jMod_storeOf (x1 : Int32) (S : St) : Option (Int32 × St) :=
  jMod_storeOf_h4 FU x1 0 0 S
def jMod_house (x1 : Int32) (x2 : Int32) (S : St) : Option (Int32 × St) :=
  x_bd (jMod_isHouse x1 S) (fun v2 S1 => if v2 = 0 then (some ((-1), S1)) else (x_bd (jMod_in x2 0 5 S1) (fun v4 S3 => if v4 = 0 then (some ((-1), S3)) else (if 5 ≤ x2 then (x_bd (jMod_storeOf x1 S3) (fun v6 S5 => some (v6, S5))) else (x_ld (S3.1 9) 219 ((5 * x1) + x2) (fun v7 => some (v7, S3)))))))
def jMod_isDish (x1 : Int32) (S : St) : Option (Int32 × St) :=
  x_ld (S.1 4) 2 0 (fun v1 => x_bd (jMod_in x1 0 (v1 - 1) S) (fun v3 S2 => x_nr v3 (some (v3, S2))))
def jMod_unitsOf_b4 (K4 : Int32 → Int32 → Int32 → St → Option (Int32 × St)) (x1 : Int32) (x2 : Int32) (x3 : Int32) (S : St) : Option (Int32 × St) :=
  if 5 ≤ x3 then (some (x2, S)) else (x_ld (S.1 5) 80 ((5 * x1) + x3) (fun v1 => x_lt (x2 + v1) (fun v2 => K4 x1 v2 (x3 + 1) S)))
def jMod_unitsOf_h4 : Nat → Int32 → Int32 → Int32 → St → Option (Int32 × St)
  | 0, _, _, _, _ => none
  | n + 1, x1, x2, x3, S => jMod_unitsOf_b4 (jMod_unitsOf_h4 n) x1 x2 x3 S
def jMod_unitsOf (x1 : Int32) (S : St) : Option (Int32 × St) :=
  jMod_unitsOf_h4 FU x1 0 0 S
def jMod_dish (x1 : Int32) (x2 : Int32) (S : St) : Option (Int32 × St) :=
  x_bd (jMod_isDish x1 S) (fun v2 S1 => if v2 = 0 then (some ((-1), S1)) else (x_bd (jMod_in x2 0 7 S1) (fun v4 S3 => if v4 = 0 then (some ((-1), S3)) else (if 5 ≤ x2 then (if x2 = 5 then (x_ld (S3.1 6) 16 x1 (fun v8 => some (v8, S3))) else (if x2 = 6 then (x_ld (S3.1 7) 16 x1 (fun v7 => some (v7, S3))) else (x_bd (jMod_unitsOf x1 S3) (fun v6 S5 => some (v6, S5))))) else (x_ld (S3.1 5) 80 ((5 * x1) + x2) (fun v9 => some (v9, S3)))))))
def jMod_canCook_b5 (K5 : Int32 → Int32 → Int32 → Int32 → St → Option (Int32 × St)) (x1 : Int32) (x2 : Int32) (x3 : Int32) (x4 : Int32) (S : St) : Option (Int32 × St) :=
  if 5 ≤ x4 then (x_nr x3 (some (x3, S))) else (if x3 = 0 then (K5 x1 x2 0 (x4 + 1) S) else (x_ld (S.1 9) 219 ((5 * x1) + x4) (fun v1 => x_ld (S.1 5) 80 ((5 * x2) + x4) (fun v2 => if v1 < v2 then (K5 x1 x2 0 (x4 + 1) S) else (K5 x1 x2 1 (x4 + 1) S)))))
def jMod_canCook_h5 : Nat → Int32 → Int32 → Int32 → Int32 → St → Option (Int32 × St)
  | 0, _, _, _, _, _ => none
  | n + 1, x1, x2, x3, x4, S => jMod_canCook_b5 (jMod_canCook_h5 n) x1 x2 x3 x4 S
def jMod_canCook (x1 : Int32) (x2 : Int32) (S : St) : Option (Int32 × St) :=
  jMod_canCook_h5 FU x1 x2 1 0 S
def jMod_cook_b47 (K47 : Int32 → Int32 → Int32 → St → Option (Int32 × St)) (x1 : Int32) (x2 : Int32) (x3 : Int32) (S : St) : Option (Int32 × St) :=
  if 5 ≤ x3 then (x_ld (S.1 9) 219 32 (fun v8 => x_gd 219 (33 + (2 * v8)) (x_lt (upI S 9 (Int32.toNatClampNeg (33 + (2 * v8))) x1) (fun S9 => x_ld (S9.1 9) 219 32 (fun v10 => x_gd 219 ((33 + (2 * v10)) + 1) (x_lt (upI S9 9 (Int32.toNatClampNeg ((33 + (2 * v10)) + 1)) x2) (fun S11 => x_ld (S11.1 9) 219 32 (fun v12 => x_gd 219 32 (x_lt (upI S11 9 (Int32.toNatClampNeg 32) (v12 + 1)) (fun S13 => x_ld (S13.1 6) 16 x2 (fun v14 => some (v14, S13)))))))))))) else (x_ld (S.1 9) 219 ((5 * x1) + x3) (fun v15 => x_ld (S.1 5) 80 ((5 * x2) + x3) (fun v16 => x_gd 219 ((5 * x1) + x3) (x_lt (upI S 9 (Int32.toNatClampNeg ((5 * x1) + x3)) (v15 - v16)) (fun S17 => K47 x1 x2 (x3 + 1) S17)))))
def jMod_cook_h47 : Nat → Int32 → Int32 → Int32 → St → Option (Int32 × St)
  | 0, _, _, _, _ => none
  | n + 1, x1, x2, x3, S => jMod_cook_b47 (jMod_cook_h47 n) x1 x2 x3 S
def jMod_cook (x1 : Int32) (x2 : Int32) (S : St) : Option (Int32 × St) :=
  x_bd (jMod_isHouse x1 S) (fun v2 S1 => if v2 = 0 then (some ((-1), S1)) else (x_bd (jMod_isDish x2 S1) (fun v4 S3 => if v4 = 0 then (some ((-1), S3)) else (x_bd (jMod_canCook x1 x2 S3) (fun v6 S5 => if v6 = 0 then (some ((-2), S5)) else (x_ld (S5.1 9) 219 32 (fun v7 => if v7 = 20 then (some ((-3), S5)) else (jMod_cook_h47 FU x1 x2 0 S5))))))))
def jMod_undo_b115 (K64 : Int32 → Int32 → Int32 → St → Option (Int32 × St)) (x1 : Int32) (x2 : Int32) (x3 : Int32) (s0 : Int32) (s1 : Int32) (S : St) : Option (Int32 × St) :=
  x_gd 219 s1 (x_lt (upI S 9 (Int32.toNatClampNeg s1) s0) (fun S12 => K64 x1 x2 (x3 + 1) S12))
def jMod_undo_b64 (K64 : Int32 → Int32 → Int32 → St → Option (Int32 × St)) (x1 : Int32) (x2 : Int32) (x3 : Int32) (S : St) : Option (Int32 × St) :=
  if 5 ≤ x3 then (x_ld (S.1 9) 219 32 (fun v8 => some (v8, S))) else (x_ld (S.1 9) 219 ((5 * x1) + x3) (fun v9 => x_ld (S.1 5) 80 ((5 * x2) + x3) (fun v10 => x_lt (v9 + v10) (fun v11 => if v11 ≤ 9 then (jMod_undo_b115 K64 x1 x2 x3 v11 ((5 * x1) + x3) S) else (jMod_undo_b115 K64 x1 x2 x3 9 ((5 * x1) + x3) S)))))
def jMod_undo_h64 : Nat → Int32 → Int32 → Int32 → St → Option (Int32 × St)
  | 0, _, _, _, _ => none
  | n + 1, x1, x2, x3, S => jMod_undo_b64 (jMod_undo_h64 n) x1 x2 x3 S
def jMod_undo (S : St) : Option (Int32 × St) :=
  x_ld (S.1 9) 219 32 (fun v1 => if v1 = 0 then (some ((-2), S)) else (x_ld (S.1 9) 219 32 (fun v2 => x_gd 219 32 (x_lt (upI S 9 (Int32.toNatClampNeg 32) (v2 - 1)) (fun S3 => x_ld (S3.1 9) 219 32 (fun v4 => x_ld (S3.1 9) 219 (33 + (2 * v4)) (fun v5 => x_ld (S3.1 9) 219 32 (fun v6 => x_ld (S3.1 9) 219 ((33 + (2 * v6)) + 1) (fun v7 => jMod_undo_h64 FU v5 v7 0 S3)))))))))
def jMod_gives (x1 : Int32) (x2 : Int32) (x3 : Int32) (x4 : Int32) (S : St) : Option (Int32 × St) :=
  x_bd (jMod_isHouse x1 S) (fun v2 S1 => if v2 = 0 then (some ((-1), S1)) else (x_bd (jMod_isHouse x2 S1) (fun v4 S3 => if v4 = 0 then (some ((-1), S3)) else (if x1 = x2 then (some ((-1), S3)) else (x_bd (jMod_in x3 0 4 S3) (fun v6 S5 => if v6 = 0 then (some ((-1), S5)) else (x_bd (jMod_in x4 1 9 S5) (fun v8 S7 => if v8 = 0 then (some ((-1), S7)) else (x_ld (S7.1 9) 219 ((5 * x1) + x3) (fun v9 => if x4 ≤ v9 then (x_ld (S7.1 9) 219 ((5 * x2) + x3) (fun v10 => if (v10 + x4) ≤ 9 then (x_ld (S7.1 9) 219 ((5 * x1) + x3) (fun v11 => x_gd 219 ((5 * x1) + x3) (x_lt (upI S7 9 (Int32.toNatClampNeg ((5 * x1) + x3)) (v11 - x4)) (fun S12 => x_ld (S12.1 9) 219 ((5 * x2) + x3) (fun v13 => x_gd 219 ((5 * x2) + x3) (x_lt (upI S12 9 (Int32.toNatClampNeg ((5 * x2) + x3)) (v13 + x4)) (fun S14 => x_ld (S14.1 9) 219 ((5 * x2) + x3) (fun v15 => some (v15, S14))))))))) else (some ((-3), S7)))) else (some ((-2), S7))))))))))))
def jMod_burns_b18 (K18 : Int32 → Int32 → Int32 → St → Option (Int32 × St)) (x1 : Int32) (x2 : Int32) (x3 : Int32) (S : St) : Option (Int32 × St) :=
  if 5 ≤ x3 then (some (x2, S)) else (x_gd 219 ((5 * x1) + x3) (x_lt (upI S 9 (Int32.toNatClampNeg ((5 * x1) + x3)) 0) (fun S5 => K18 x1 x2 (x3 + 1) S5)))
def jMod_burns_h18 : Nat → Int32 → Int32 → Int32 → St → Option (Int32 × St)
  | 0, _, _, _, _ => none
  | n + 1, x1, x2, x3, S => jMod_burns_b18 (jMod_burns_h18 n) x1 x2 x3 S
def jMod_burns (x1 : Int32) (S : St) : Option (Int32 × St) :=
  x_bd (jMod_isHouse x1 S) (fun v2 S1 => if v2 = 0 then (some ((-1), S1)) else (x_bd (jMod_storeOf x1 S1) (fun v4 S3 => jMod_burns_h18 FU x1 v4 0 S3)))
def jMod_plume (x1 : Int32) (x2 : Int32) (S : St) : Option (Int32 × St) :=
  x_ld (S.1 9) 219 32 (fun v1 => x_bd (jMod_in x1 0 (v1 - 1) S) (fun v3 S2 => if v3 = 0 then (some ((-1), S2)) else (x_bd (jMod_in x2 0 1 S2) (fun v5 S4 => if v5 = 0 then (some ((-1), S4)) else (if x2 = 0 then (x_ld (S4.1 9) 219 (33 + (2 * x1)) (fun v8 => some (v8, S4))) else (x_ld (S4.1 9) 219 ((33 + (2 * x1)) + 1) (fun v6 => x_ld (S4.1 6) 16 v6 (fun v7 => some (v7, S4)))))))))
def jMod_fog (x1 : Int32) (S : St) : Option (Int32 × St) :=
  x_bd (jMod_in x1 0 5 S) (fun v2 S1 => if v2 = 0 then (some ((-1), S1)) else (x_ld (S1.1 9) 219 30 (fun v3 => x_gd 219 30 (x_lt (upI S1 9 (Int32.toNatClampNeg 30) x1) (fun S4 => some (v3, S4))))))
def jMod_areWords (x0 : Int32) (x1 : Int32) (x2 : Int32) (S : St) : Option (Int32 × St) :=
  x_bd (jMod_in x0 0 7 S) (fun v2 S1 => if v2 = 0 then (x_nr 0 (some (0, S1))) else (x_bd (jMod_in x1 (-1) 7 S1) (fun v4 S3 => if v4 = 0 then (x_nr 0 (some (0, S3))) else (x_bd (jMod_in x2 (-1) 7 S3) (fun v6 S5 => if v6 = 0 then (x_nr 0 (some (0, S5))) else (if 0 ≤ x1 then (x_nr 1 (some (1, S5))) else (if 0 ≤ x2 then (x_nr 0 (some (0, S5))) else (x_nr 1 (some (1, S5))))))))))
def jMod_ask (x1 : Int32) (x2 : Int32) (x3 : Int32) (S : St) : Option (St) :=
  x_gd 3 0 (x_lt (upI S 13 (Int32.toNatClampNeg 0) x1) (fun S1 => x_gd 3 1 (x_lt (upI S1 13 (Int32.toNatClampNeg 1) x2) (fun S2 => x_gd 3 2 (x_lt (upI S2 13 (Int32.toNatClampNeg 2) x3) (fun S3 => some S3))))))
def jMod_isRow_b69 (K38 : Int32 → Int32 → Int32 → St → Option (Int32 × St)) (x2 : Int32) (x3 : Int32) (x4 : Int32) (s0 : Int32) (S : St) : Option (Int32 × St) :=
  if x3 = 0 then (K38 x2 0 (x4 + 1) S) else (if s0 = 0 then (x_ld (S.1 11) 3 x4 (fun v4 => if v4 = 8 then (K38 x2 1 (x4 + 1) S) else (K38 x2 0 (x4 + 1) S))) else (x_ld (S.1 11) 3 x4 (fun v5 => x_ld (S.1 4) 2 0 (fun v6 => if v6 ≤ v5 then (K38 x2 0 (x4 + 1) S) else (x_ld (S.1 11) 3 x4 (fun v7 => x_ld (S.1 7) 16 v7 (fun v8 => x_ld (S.1 13) 3 x4 (fun v9 => if v8 = v9 then (K38 x2 1 (x4 + 1) S) else (K38 x2 0 (x4 + 1) S)))))))))
def jMod_isRow_b38 (K38 : Int32 → Int32 → Int32 → St → Option (Int32 × St)) (x2 : Int32) (x3 : Int32) (x4 : Int32) (S : St) : Option (Int32 × St) :=
  if 3 ≤ x4 then (x_nr x3 (some (x3, S))) else (if ((x2 >>> (x4 &&& 31)) &&& 1) = 1 then (x_ld (S.1 13) 3 x4 (fun v10 => if v10 < 0 then (jMod_isRow_b69 K38 x2 x3 x4 0 S) else (jMod_isRow_b69 K38 x2 x3 x4 1 S))) else (jMod_isRow_b69 K38 x2 x3 x4 0 S))
def jMod_isRow_h38 : Nat → Int32 → Int32 → Int32 → St → Option (Int32 × St)
  | 0, _, _, _, _ => none
  | n + 1, x2, x3, x4, S => jMod_isRow_b38 (jMod_isRow_h38 n) x2 x3 x4 S
def jMod_isRow (x1 : Int32) (x2 : Int32) (S : St) : Option (Int32 × St) :=
  if (81 : Int32) = 0 then none else (x_gd 3 0 (x_lt (upI S 11 (Int32.toNatClampNeg 0) (x1 / 81)) (fun S1 => if (9 : Int32) = 0 then none else (if (9 : Int32) = 0 then none else (x_gd 3 1 (x_lt (upI S1 11 (Int32.toNatClampNeg 1) ((x1 / 9) - (x1 / 9) / 9 * 9)) (fun S2 => if (9 : Int32) = 0 then none else (x_gd 3 2 (x_lt (upI S2 11 (Int32.toNatClampNeg 2) (x1 - x1 / 9 * 9)) (fun S3 => jMod_isRow_h38 FU x2 1 0 S3))))))))))
def jMod_hasAll_b15 (K4 : Int32 → Int32 → Int32 → St → Option (Int32 × St)) (K15 : Int32 → Int32 → Int32 → Int32 → Int32 → St → Option (Int32 × St)) (x1 : Int32) (x2 : Int32) (x3 : Int32) (x4 : Int32) (x5 : Int32) (S : St) : Option (Int32 × St) :=
  if 3 ≤ x5 then (if x2 = 0 then (K4 x1 0 (x3 + 1) S) else (x_ld (S.1 9) 219 ((5 * x1) + x3) (fun v1 => if v1 < x4 then (K4 x1 0 (x3 + 1) S) else (K4 x1 1 (x3 + 1) S)))) else (x_ld (S.1 11) 3 x5 (fun v2 => if 8 ≤ v2 then (x_lt (x4 + 0) (fun v3 => K15 x1 x2 x3 v3 (x5 + 1) S)) else (x_ld (S.1 11) 3 x5 (fun v4 => x_ld (S.1 5) 80 ((5 * v4) + x3) (fun v5 => x_lt (x4 + v5) (fun v6 => K15 x1 x2 x3 v6 (x5 + 1) S))))))
def jMod_hasAll_h15 (K4 : Int32 → Int32 → Int32 → St → Option (Int32 × St)) : Nat → Int32 → Int32 → Int32 → Int32 → Int32 → St → Option (Int32 × St)
  | 0, _, _, _, _, _, _ => none
  | n + 1, x1, x2, x3, x4, x5, S => jMod_hasAll_b15 K4 (jMod_hasAll_h15 K4 n) x1 x2 x3 x4 x5 S
def jMod_hasAll_b4 (K4 : Int32 → Int32 → Int32 → St → Option (Int32 × St)) (x1 : Int32) (x2 : Int32) (x3 : Int32) (S : St) : Option (Int32 × St) :=
  if 5 ≤ x3 then (x_nr x2 (some (x2, S))) else (jMod_hasAll_h15 K4 FU x1 x2 x3 0 0 S)
def jMod_hasAll_h4 : Nat → Int32 → Int32 → Int32 → St → Option (Int32 × St)
  | 0, _, _, _, _ => none
  | n + 1, x1, x2, x3, S => jMod_hasAll_b4 (jMod_hasAll_h4 n) x1 x2 x3 S
def jMod_hasAll (x1 : Int32) (S : St) : Option (Int32 × St) :=
  jMod_hasAll_h4 FU x1 1 0 S
def jMod_unitsFor_b100 (K6 : Int32 → Int32 → Int32 → Int32 → St → Option (Int32 × St)) (K100 : Int32 → Int32 → Int32 → Int32 → Int32 → St → Option (Int32 × St)) (x1 : Int32) (x2 : Int32) (x3 : Int32) (x4 : Int32) (x6 : Int32) (S : St) : Option (Int32 × St) :=
  if 3 ≤ x6 then (K6 x1 x2 x3 (x4 + 1) S) else (x_ld (S.1 11) 3 x6 (fun v5 => x_gd 3 x6 (x_lt (upI S 12 (Int32.toNatClampNeg x6) v5) (fun S6 => K100 x1 x2 x3 x4 (x6 + 1) S6))))
def jMod_unitsFor_h100 (K6 : Int32 → Int32 → Int32 → Int32 → St → Option (Int32 × St)) : Nat → Int32 → Int32 → Int32 → Int32 → Int32 → St → Option (Int32 × St)
  | 0, _, _, _, _, _, _ => none
  | n + 1, x1, x2, x3, x4, x6, S => jMod_unitsFor_b100 K6 (jMod_unitsFor_h100 K6 n) x1 x2 x3 x4 x6 S
def jMod_unitsFor_b38 (K6 : Int32 → Int32 → Int32 → Int32 → St → Option (Int32 × St)) (K38 : Int32 → Int32 → Int32 → Int32 → Int32 → Int32 → St → Option (Int32 × St)) (x1 : Int32) (x2 : Int32) (x3 : Int32) (x4 : Int32) (x5 : Int32) (x6 : Int32) (S : St) : Option (Int32 × St) :=
  if 3 ≤ x6 then (if x3 = (-9) then (jMod_unitsFor_h100 K6 FU x1 x2 x5 x4 0 S) else (if x3 ≤ x5 then (K6 x1 x2 x3 (x4 + 1) S) else (jMod_unitsFor_h100 K6 FU x1 x2 x5 x4 0 S))) else (x_ld (S.1 11) 3 x6 (fun v7 => if 8 ≤ v7 then (x_lt (x5 + 0) (fun v8 => K38 x1 x2 x3 x4 v8 (x6 + 1) S)) else (x_ld (S.1 11) 3 x6 (fun v9 => x_bd (jMod_unitsOf v9 S) (fun v11 S10 => x_lt (x5 + v11) (fun v12 => K38 x1 x2 x3 x4 v12 (x6 + 1) S10))))))
def jMod_unitsFor_h38 (K6 : Int32 → Int32 → Int32 → Int32 → St → Option (Int32 × St)) : Nat → Int32 → Int32 → Int32 → Int32 → Int32 → Int32 → St → Option (Int32 × St)
  | 0, _, _, _, _, _, _, _ => none
  | n + 1, x1, x2, x3, x4, x5, x6, S => jMod_unitsFor_b38 K6 (jMod_unitsFor_h38 K6 n) x1 x2 x3 x4 x5 x6 S
def jMod_unitsFor_b6 (K6 : Int32 → Int32 → Int32 → Int32 → St → Option (Int32 × St)) (x1 : Int32) (x2 : Int32) (x3 : Int32) (x4 : Int32) (S : St) : Option (Int32 × St) :=
  if 729 ≤ x4 then (some (x3, S)) else (x_bd (jMod_isRow x4 x2 S) (fun v2 S1 => if v2 = 0 then (K6 x1 x2 x3 (x4 + 1) S1) else (x_bd (jMod_hasAll x1 S1) (fun v4 S3 => if v4 = 0 then (K6 x1 x2 x3 (x4 + 1) S3) else (jMod_unitsFor_h38 K6 FU x1 x2 x3 x4 0 0 S3)))))
def jMod_unitsFor_h6 : Nat → Int32 → Int32 → Int32 → Int32 → St → Option (Int32 × St)
  | 0, _, _, _, _, _ => none
  | n + 1, x1, x2, x3, x4, S => jMod_unitsFor_b6 (jMod_unitsFor_h6 n) x1 x2 x3 x4 S
def jMod_unitsFor (x1 : Int32) (x2 : Int32) (S : St) : Option (Int32 × St) :=
  jMod_unitsFor_h6 FU x1 x2 (-9) 0 S
def jMod_says (x1 : Int32) (x2 : Int32) (x3 : Int32) (x4 : Int32) (x5 : Int32) (S : St) : Option (Int32 × St) :=
  x_bd (jMod_isHouse x1 S) (fun v2 S1 => if v2 = 0 then (some ((-1), S1)) else (x_bd (jMod_areWords x2 x3 x4 S1) (fun v4 S3 => if v4 = 0 then (some ((-1), S3)) else (x_bd (jMod_in x5 (-1) 2 S3) (fun v6 S5 => if v6 = 0 then (some ((-1), S5)) else (x_bv (jMod_ask x2 x3 x4 S5) (fun S7 => x_bd (jMod_unitsFor x1 7 S7) (fun v9 S8 => if v9 = (-9) then (some (v9, S8)) else (if 0 ≤ x5 then (x_ld (S8.1 13) 3 x5 (fun v10 => if 0 ≤ v10 then (x_ld (S8.1 12) 3 x5 (fun v11 => some (v11, S8))) else (some ((-5), S8)))) else (some (v9, S8)))))))))))
def jMod_bitsIn_b4 (K4 : Int32 → Int32 → Int32 → St → Option (Int32 × St)) (x0 : Int32) (x1 : Int32) (x2 : Int32) (S : St) : Option (Int32 × St) :=
  if 8 ≤ x2 then (some (x1, S)) else (x_lt (x1 + ((x0 >>> (x2 &&& 31)) &&& 1)) (fun v1 => K4 x0 v1 (x2 + 1) S))
def jMod_bitsIn_h4 : Nat → Int32 → Int32 → Int32 → St → Option (Int32 × St)
  | 0, _, _, _, _ => none
  | n + 1, x0, x1, x2, S => jMod_bitsIn_b4 (jMod_bitsIn_h4 n) x0 x1 x2 S
def jMod_bitsIn (x0 : Int32) (S : St) : Option (Int32 × St) :=
  jMod_bitsIn_h4 FU x0 0 0 S
def jMod_nearest_b55 (K55 : Int32 → Int32 → Int32 → Int32 → St → Option (Int32 × St)) (x1 : Int32) (x5 : Int32) (x6 : Int32) (x7 : Int32) (S : St) : Option (Int32 × St) :=
  if x5 < x7 then (some (x6, S)) else (x_bd (jMod_bitsIn x7 S) (fun v7 S6 => x_bd (jMod_bitsIn x6 S6) (fun v9 S8 => if v7 ≤ v9 then (K55 x1 x5 x6 (x7 + 1) S8) else (x_bd (jMod_unitsFor x1 x7 S8) (fun v11 S10 => if v11 = (-9) then (K55 x1 x5 x6 (x7 + 1) S10) else (K55 x1 x5 x7 (x7 + 1) S10))))))
def jMod_nearest_h55 : Nat → Int32 → Int32 → Int32 → Int32 → St → Option (Int32 × St)
  | 0, _, _, _, _, _ => none
  | n + 1, x1, x5, x6, x7, S => jMod_nearest_b55 (jMod_nearest_h55 n) x1 x5 x6 x7 S
def jMod_nearest (x1 : Int32) (x2 : Int32) (x3 : Int32) (x4 : Int32) (S : St) : Option (Int32 × St) :=
  x_bd (jMod_isHouse x1 S) (fun v2 S1 => if v2 = 0 then (some ((-1), S1)) else (x_bd (jMod_areWords x2 x3 x4 S1) (fun v4 S3 => if v4 = 0 then (some ((-1), S3)) else (x_bv (jMod_ask x2 x3 x4 S3) (fun S5 => if x4 < 0 then (if x3 < 0 then (jMod_nearest_h55 FU x1 1 0 1 S5) else (jMod_nearest_h55 FU x1 3 0 1 S5)) else (jMod_nearest_h55 FU x1 7 0 1 S5))))))
def jMod_isSmoke (x0 : Int32) (S : St) : Option (Int32 × St) :=
  x_bd (jMod_in x0 0 7 S) (fun v2 S1 => x_nr v2 (some (v2, S1)))
def jMod_readAs_b5 (K5 : Int32 → Int32 → Int32 → Int32 → St → Option (Int32 × St)) (x1 : Int32) (x2 : Int32) (x3 : Int32) (x4 : Int32) (S : St) : Option (Int32 × St) :=
  if 3 ≤ x4 then (some (x3, S)) else (if (((x1 ^^^ x2) >>> (x4 &&& 31)) &&& 1) = 1 then (x_ld (S.1 9) 219 30 (fun v3 => x_lt (x3 * v3) (fun v4 => K5 x1 x2 v4 (x4 + 1) S))) else (x_ld (S.1 9) 219 30 (fun v1 => x_lt (x3 * (10 - v1)) (fun v2 => K5 x1 x2 v2 (x4 + 1) S))))
def jMod_readAs_h5 : Nat → Int32 → Int32 → Int32 → Int32 → St → Option (Int32 × St)
  | 0, _, _, _, _, _ => none
  | n + 1, x1, x2, x3, x4, S => jMod_readAs_b5 (jMod_readAs_h5 n) x1 x2 x3 x4 S
def jMod_readAs (x1 : Int32) (x2 : Int32) (S : St) : Option (Int32 × St) :=
  jMod_readAs_h5 FU x1 x2 1 0 S
def jMod_reads (x1 : Int32) (x2 : Int32) (S : St) : Option (Int32 × St) :=
  x_bd (jMod_isSmoke x1 S) (fun v2 S1 => if v2 = 0 then (some ((-1), S1)) else (x_bd (jMod_isSmoke x2 S1) (fun v4 S3 => if v4 = 0 then (some ((-1), S3)) else (x_bd (jMod_readAs x1 x2 S3) (fun v6 S5 => some (v6, S5))))))
def jMod_meant_b2 (K2 : Int32 → Int32 → St → Option (Int32 × St)) (x1 : Int32) (x2 : Int32) (S : St) : Option (Int32 × St) :=
  x_ld (S.1 4) 2 0 (fun v1 => if v1 ≤ x2 then (some ((-9), S)) else (x_ld (S.1 6) 16 x2 (fun v2 => if v2 = x1 then (x_ld (S.1 7) 16 x2 (fun v3 => some (v3, S))) else (K2 x1 (x2 + 1) S))))
def jMod_meant_h2 : Nat → Int32 → Int32 → St → Option (Int32 × St)
  | 0, _, _, _ => none
  | n + 1, x1, x2, S => jMod_meant_b2 (jMod_meant_h2 n) x1 x2 S
def jMod_meant (x1 : Int32) (S : St) : Option (Int32 × St) :=
  jMod_meant_h2 FU x1 0 S
def jMod_means (x1 : Int32) (S : St) : Option (Int32 × St) :=
  x_bd (jMod_isSmoke x1 S) (fun v2 S1 => if v2 = 0 then (some ((-1), S1)) else (x_bd (jMod_meant x1 S1) (fun v4 S3 => some (v4, S3))))
def jMod_leastOf_b2 (K2 : Int32 → Int32 → St → Option (Int32 × St)) (x1 : Int32) (x2 : Int32) (S : St) : Option (Int32 × St) :=
  x_ld (S.1 4) 2 0 (fun v1 => if v1 ≤ x2 then (some ((-9), S)) else (x_ld (S.1 7) 16 x2 (fun v2 => if v2 = x1 then (some (x2, S)) else (K2 x1 (x2 + 1) S))))
def jMod_leastOf_h2 : Nat → Int32 → Int32 → St → Option (Int32 × St)
  | 0, _, _, _ => none
  | n + 1, x1, x2, S => jMod_leastOf_b2 (jMod_leastOf_h2 n) x1 x2 S
def jMod_leastOf (x1 : Int32) (S : St) : Option (Int32 × St) :=
  jMod_leastOf_h2 FU x1 0 S
def jMod_common_b6 (K6 : Int64 → Int64 → St → Option (Int64 × St)) (y4 : Int64) (y6 : Int64) (S : St) : Option (Int64 × St) :=
  if (lg_cmp y6 0) = 0 then (some (y4, S)) else (if y6 = 0 then none else (x_lt (y4 - y4 / y6 * y6) (fun v1 => K6 y6 v1 S)))
def jMod_common_h6 : Nat → Int64 → Int64 → St → Option (Int64 × St)
  | 0, _, _, _ => none
  | n + 1, y4, y6, S => jMod_common_b6 (jMod_common_h6 n) y4 y6 S
def jMod_common (y0 : Int64) (y2 : Int64) (S : St) : Option (Int64 × St) :=
  jMod_common_h6 FU y0 y2 S
def jMod_chain_b221 (K85 : Int32 → Int32 → Int32 → Int64 → Int32 → St → Option (Int64 × St)) (K221 : Int32 → Int32 → Int32 → Int64 → Int32 → Int32 → St → Option (Int64 × St)) (x1 : Int32) (x2 : Int32) (x3 : Int32) (y4 : Int64) (x6 : Int32) (x7 : Int32) (S : St) : Option (Int64 × St) :=
  if 8 ≤ x7 then (K85 x1 x2 x3 y4 (x6 + 1) S) else (x_ld (S.2 15) 8 x7 (fun v14 => x_gd 8 x7 (x_lt (upL S 14 (Int32.toNatClampNeg x7) v14) (fun S15 => K221 x1 x2 x3 y4 x6 (x7 + 1) S15))))
def jMod_chain_h221 (K85 : Int32 → Int32 → Int32 → Int64 → Int32 → St → Option (Int64 × St)) : Nat → Int32 → Int32 → Int32 → Int64 → Int32 → Int32 → St → Option (Int64 × St)
  | 0, _, _, _, _, _, _, _ => none
  | n + 1, x1, x2, x3, y4, x6, x7, S => jMod_chain_b221 K85 (jMod_chain_h221 K85 n) x1 x2 x3 y4 x6 x7 S
def jMod_chain_b136 (K85 : Int32 → Int32 → Int32 → Int64 → Int32 → St → Option (Int64 × St)) (K126 : Int32 → Int32 → Int32 → Int64 → Int32 → Int32 → St → Option (Int64 × St)) (K136 : Int32 → Int32 → Int32 → Int64 → Int32 → Int32 → Int32 → St → Option (Int64 × St)) (x1 : Int32) (x2 : Int32) (x3 : Int32) (y4 : Int64) (x6 : Int32) (x7 : Int32) (x8 : Int32) (S : St) : Option (Int64 × St) :=
  if 8 ≤ x8 then (K126 x1 x2 x3 y4 x6 (x7 + 1) S) else (x_ld (S.2 14) 8 x7 (fun v16 => if (lg_cmp v16 0) ≤ 0 then (K126 x1 x2 x3 y4 x6 (x7 + 1) S) else (x_bd (jMod_meant x8 S) (fun v18 S17 => if v18 = (-9) then (K136 x1 x2 x3 y4 x6 x7 (x8 + 1) S17) else (x_ld (S17.2 15) 8 v18 (fun v19 => x_ld (S17.2 14) 8 x7 (fun v20 => x_bd (jMod_leastOf x7 S17) (fun v22 S21 => x_ld (S21.1 6) 16 v22 (fun v23 => x_bd (jMod_readAs v23 x8 S21) (fun v25 S24 => x_gd 8 v18 (x_lt (upL S24 15 (Int32.toNatClampNeg v18) (v19 + (v20 * (Int32.toInt64 v25)))) (fun S26 => K136 x1 x2 x3 y4 x6 x7 (x8 + 1) S26))))))))))))
def jMod_chain_h136 (K85 : Int32 → Int32 → Int32 → Int64 → Int32 → St → Option (Int64 × St)) (K126 : Int32 → Int32 → Int32 → Int64 → Int32 → Int32 → St → Option (Int64 × St)) : Nat → Int32 → Int32 → Int32 → Int64 → Int32 → Int32 → Int32 → St → Option (Int64 × St)
  | 0, _, _, _, _, _, _, _, _ => none
  | n + 1, x1, x2, x3, y4, x6, x7, x8, S => jMod_chain_b136 K85 K126 (jMod_chain_h136 K85 K126 n) x1 x2 x3 y4 x6 x7 x8 S
def jMod_chain_b126 (K85 : Int32 → Int32 → Int32 → Int64 → Int32 → St → Option (Int64 × St)) (K126 : Int32 → Int32 → Int32 → Int64 → Int32 → Int32 → St → Option (Int64 × St)) (x1 : Int32) (x2 : Int32) (x3 : Int32) (y4 : Int64) (x6 : Int32) (x7 : Int32) (S : St) : Option (Int64 × St) :=
  if 8 ≤ x7 then (jMod_chain_h221 K85 FU x1 x2 x3 y4 x6 0 S) else (jMod_chain_h136 K85 K126 FU x1 x2 x3 y4 x6 x7 0 S)
def jMod_chain_h126 (K85 : Int32 → Int32 → Int32 → Int64 → Int32 → St → Option (Int64 × St)) : Nat → Int32 → Int32 → Int32 → Int64 → Int32 → Int32 → St → Option (Int64 × St)
  | 0, _, _, _, _, _, _, _ => none
  | n + 1, x1, x2, x3, y4, x6, x7, S => jMod_chain_b126 K85 (jMod_chain_h126 K85 n) x1 x2 x3 y4 x6 x7 S
def jMod_chain_b102 (K85 : Int32 → Int32 → Int32 → Int64 → Int32 → St → Option (Int64 × St)) (K102 : Int32 → Int32 → Int32 → Int64 → Int32 → Int32 → St → Option (Int64 × St)) (x1 : Int32) (x2 : Int32) (x3 : Int32) (y4 : Int64) (x6 : Int32) (x7 : Int32) (S : St) : Option (Int64 × St) :=
  if 8 ≤ x7 then (jMod_chain_h126 K85 FU x1 x2 x3 y4 x6 0 S) else (x_gd 8 x7 (x_lt (upL S 15 (Int32.toNatClampNeg x7) 0) (fun S27 => K102 x1 x2 x3 y4 x6 (x7 + 1) S27)))
def jMod_chain_h102 (K85 : Int32 → Int32 → Int32 → Int64 → Int32 → St → Option (Int64 × St)) : Nat → Int32 → Int32 → Int32 → Int64 → Int32 → Int32 → St → Option (Int64 × St)
  | 0, _, _, _, _, _, _, _ => none
  | n + 1, x1, x2, x3, y4, x6, x7, S => jMod_chain_b102 K85 (jMod_chain_h102 K85 n) x1 x2 x3 y4 x6 x7 S
def jMod_chain_b85 (K85 : Int32 → Int32 → Int32 → Int64 → Int32 → St → Option (Int64 × St)) (x1 : Int32) (x2 : Int32) (x3 : Int32) (y4 : Int64) (x6 : Int32) (S : St) : Option (Int64 × St) :=
  if x2 ≤ x6 then (x_ld (S.2 14) 8 x1 (fun v9 => x_bd (jMod_common v9 y4 S) (fun v11 S10 => if x3 = 0 then (x_ld (S10.2 14) 8 x1 (fun v12 => if v11 = 0 then none else (some (v12 / v11, S10)))) else (if v11 = 0 then none else (some (y4 / v11, S10)))))) else (x_lt (y4 * 1000) (fun v13 => jMod_chain_h102 K85 FU x1 x2 x3 v13 x6 0 S))
def jMod_chain_h85 : Nat → Int32 → Int32 → Int32 → Int64 → Int32 → St → Option (Int64 × St)
  | 0, _, _, _, _, _, _ => none
  | n + 1, x1, x2, x3, y4, x6, S => jMod_chain_b85 (jMod_chain_h85 n) x1 x2 x3 y4 x6 S
def jMod_chain_b75 (K51 : Int32 → Int32 → Int32 → Int64 → Int32 → St → Option (Int64 × St)) (x1 : Int32) (x2 : Int32) (x3 : Int32) (y4 : Int64) (x6 : Int32) (t0 : Int64) (s1 : Int32) (S : St) : Option (Int64 × St) :=
  x_gd 8 s1 (x_lt (upL S 14 (Int32.toNatClampNeg s1) t0) (fun S28 => K51 x1 x2 x3 y4 (x6 + 1) S28))
def jMod_chain_b51 (K51 : Int32 → Int32 → Int32 → Int64 → Int32 → St → Option (Int64 × St)) (x1 : Int32) (x2 : Int32) (x3 : Int32) (y4 : Int64) (x6 : Int32) (S : St) : Option (Int64 × St) :=
  if 8 ≤ x6 then (jMod_chain_h85 FU x1 x2 x3 y4 0 S) else (if x6 = x1 then (jMod_chain_b75 K51 x1 x2 x3 y4 x6 1 x6 S) else (jMod_chain_b75 K51 x1 x2 x3 y4 x6 0 x6 S))
def jMod_chain_h51 : Nat → Int32 → Int32 → Int32 → Int64 → Int32 → St → Option (Int64 × St)
  | 0, _, _, _, _, _, _ => none
  | n + 1, x1, x2, x3, y4, x6, S => jMod_chain_b51 (jMod_chain_h51 n) x1 x2 x3 y4 x6 S
def jMod_chain (x1 : Int32) (x2 : Int32) (x3 : Int32) (S : St) : Option (Int64 × St) :=
  x_bd (jMod_in x1 0 7 S) (fun v2 S1 => if v2 = 0 then (some ((-1), S1)) else (x_bd (jMod_in x2 1 4 S1) (fun v4 S3 => if v4 = 0 then (some ((-1), S3)) else (x_bd (jMod_in x3 0 1 S3) (fun v6 S5 => if v6 = 0 then (some ((-1), S5)) else (x_bd (jMod_leastOf x1 S5) (fun v8 S7 => if v8 = (-9) then (some (Int32.toInt64 x3, S7)) else (jMod_chain_h51 FU x1 x2 x3 1 0 S7))))))))
def jMod_who_b87 (K35 : Int32 → Int32 → Int32 → Int32 → Int32 → Int32 → St → Option (Int32 × St)) (K49 : Int32 → Int32 → Int32 → Int32 → Int32 → Int32 → Int32 → St → Option (Int32 × St)) (x1 : Int32) (x2 : Int32) (x3 : Int32) (x4 : Int32) (x5 : Int32) (x6 : Int32) (x7 : Int32) (s0 : Int32) (S : St) : Option (Int32 × St) :=
  if x6 = x2 then (x_lt (x4 + s0) (fun v16 => x_lt (x5 + s0) (fun v17 => K49 x1 x2 x3 v16 v17 x6 (x7 + 1) S))) else (x_lt (x4 + 0) (fun v14 => x_lt (x5 + s0) (fun v15 => K49 x1 x2 x3 v14 v15 x6 (x7 + 1) S)))
def jMod_who_b49 (K35 : Int32 → Int32 → Int32 → Int32 → Int32 → Int32 → St → Option (Int32 × St)) (K49 : Int32 → Int32 → Int32 → Int32 → Int32 → Int32 → Int32 → St → Option (Int32 × St)) (x1 : Int32) (x2 : Int32) (x3 : Int32) (x4 : Int32) (x5 : Int32) (x6 : Int32) (x7 : Int32) (S : St) : Option (Int32 × St) :=
  x_ld (S.1 4) 2 0 (fun v11 => if v11 ≤ x7 then (K35 x1 x2 x3 x4 x5 (x6 + 1) S) else (x_bd (jMod_canCook x6 x7 S) (fun v13 S12 => if v13 = 0 then (jMod_who_b87 K35 K49 x1 x2 x3 x4 x5 x6 x7 0 S12) else (x_ld (S12.1 6) 16 x7 (fun v18 => x_bd (jMod_readAs v18 x1 S12) (fun v20 S19 => jMod_who_b87 K35 K49 x1 x2 x3 x4 x5 x6 x7 v20 S19))))))
def jMod_who_h49 (K35 : Int32 → Int32 → Int32 → Int32 → Int32 → Int32 → St → Option (Int32 × St)) : Nat → Int32 → Int32 → Int32 → Int32 → Int32 → Int32 → Int32 → St → Option (Int32 × St)
  | 0, _, _, _, _, _, _, _, _ => none
  | n + 1, x1, x2, x3, x4, x5, x6, x7, S => jMod_who_b49 K35 (jMod_who_h49 K35 n) x1 x2 x3 x4 x5 x6 x7 S
def jMod_who_b35 (K35 : Int32 → Int32 → Int32 → Int32 → Int32 → Int32 → St → Option (Int32 × St)) (x1 : Int32) (x2 : Int32) (x3 : Int32) (x4 : Int32) (x5 : Int32) (x6 : Int32) (S : St) : Option (Int32 × St) :=
  x_ld (S.1 2) 2 0 (fun v7 => if v7 ≤ x6 then (if x5 = 0 then (some ((-2), S)) else (x_bd (jMod_common (Int32.toInt64 x4) (Int32.toInt64 x5) S) (fun v9 S8 => x_lt (Int64.toInt32 v9) (fun v10 => if x3 = 0 then (if v10 = 0 then none else (some (x4 / v10, S8))) else (if v10 = 0 then none else (some (x5 / v10, S8))))))) else (jMod_who_h49 K35 FU x1 x2 x3 x4 x5 x6 0 S))
def jMod_who_h35 : Nat → Int32 → Int32 → Int32 → Int32 → Int32 → Int32 → St → Option (Int32 × St)
  | 0, _, _, _, _, _, _, _ => none
  | n + 1, x1, x2, x3, x4, x5, x6, S => jMod_who_b35 (jMod_who_h35 n) x1 x2 x3 x4 x5 x6 S
def jMod_who (x1 : Int32) (x2 : Int32) (x3 : Int32) (S : St) : Option (Int32 × St) :=
  x_bd (jMod_isSmoke x1 S) (fun v2 S1 => if v2 = 0 then (some ((-1), S1)) else (x_bd (jMod_isHouse x2 S1) (fun v4 S3 => if v4 = 0 then (some ((-1), S3)) else (x_bd (jMod_in x3 0 1 S3) (fun v6 S5 => if v6 = 0 then (some ((-1), S5)) else (jMod_who_h35 FU x1 x2 x3 0 0 0 S5))))))
def jMod_nextSupper_b43 (K5 : Int32 → Int32 → St → Option (Int32 × St)) (K43 : Int32 → Int32 → Int32 → Int32 → St → Option (Int32 × St)) (x1 : Int32) (x2 : Int32) (x3 : Int32) (x4 : Int32) (S : St) : Option (Int32 × St) :=
  if 5 ≤ x4 then (if x3 = 0 then (K5 x1 (x2 + 1) S) else (K5 x2 (x2 + 1) S)) else (if x3 = 0 then (K43 x1 x2 0 (x4 + 1) S) else (x_ld (S.1 16) 5 x4 (fun v2 => x_ld (S.1 5) 80 ((5 * x2) + x4) (fun v3 => if v2 < v3 then (K43 x1 x2 0 (x4 + 1) S) else (K43 x1 x2 1 (x4 + 1) S)))))
def jMod_nextSupper_h43 (K5 : Int32 → Int32 → St → Option (Int32 × St)) : Nat → Int32 → Int32 → Int32 → Int32 → St → Option (Int32 × St)
  | 0, _, _, _, _, _ => none
  | n + 1, x1, x2, x3, x4, S => jMod_nextSupper_b43 K5 (jMod_nextSupper_h43 K5 n) x1 x2 x3 x4 S
def jMod_nextSupper_b5 (K5 : Int32 → Int32 → St → Option (Int32 × St)) (x1 : Int32) (x2 : Int32) (S : St) : Option (Int32 × St) :=
  x_ld (S.1 4) 2 0 (fun v1 => if v1 ≤ x2 then (some (x1, S)) else (if x1 = (-9) then (jMod_nextSupper_h43 K5 FU x1 x2 1 0 S) else (x_bd (jMod_unitsOf x2 S) (fun v5 S4 => x_bd (jMod_unitsOf x1 S4) (fun v7 S6 => if v7 ≤ v5 then (jMod_nextSupper_h43 K5 FU x1 x2 0 0 S6) else (jMod_nextSupper_h43 K5 FU x1 x2 1 0 S6))))))
def jMod_nextSupper_h5 : Nat → Int32 → Int32 → St → Option (Int32 × St)
  | 0, _, _, _ => none
  | n + 1, x1, x2, S => jMod_nextSupper_b5 (jMod_nextSupper_h5 n) x1 x2 S
def jMod_nextSupper (S : St) : Option (Int32 × St) :=
  jMod_nextSupper_h5 FU (-9) 0 S
def jMod_days_b61 (K46 : Int32 → Int32 → St → Option (Int32 × St)) (K61 : Int32 → Int32 → Int32 → St → Option (Int32 × St)) (x2 : Int32) (x3 : Int32) (x4 : Int32) (S : St) : Option (Int32 × St) :=
  if 5 ≤ x4 then (x_bd (jMod_nextSupper S) (fun v6 S5 => K46 (x2 + 1) v6 S5)) else (x_ld (S.1 16) 5 x4 (fun v7 => x_ld (S.1 5) 80 ((5 * x3) + x4) (fun v8 => x_gd 5 x4 (x_lt (upI S 16 (Int32.toNatClampNeg x4) (v7 - v8)) (fun S9 => K61 x2 x3 (x4 + 1) S9)))))
def jMod_days_h61 (K46 : Int32 → Int32 → St → Option (Int32 × St)) : Nat → Int32 → Int32 → Int32 → St → Option (Int32 × St)
  | 0, _, _, _, _ => none
  | n + 1, x2, x3, x4, S => jMod_days_b61 K46 (jMod_days_h61 K46 n) x2 x3 x4 S
def jMod_days_b46 (K46 : Int32 → Int32 → St → Option (Int32 × St)) (x2 : Int32) (x3 : Int32) (S : St) : Option (Int32 × St) :=
  if x3 = (-9) then (some (x2, S)) else (if 30 ≤ x2 then (some (x2, S)) else (jMod_days_h61 K46 FU x2 x3 0 S))
def jMod_days_h46 : Nat → Int32 → Int32 → St → Option (Int32 × St)
  | 0, _, _, _ => none
  | n + 1, x2, x3, S => jMod_days_b46 (jMod_days_h46 n) x2 x3 S
def jMod_days_b12 (K12 : Int32 → Int32 → St → Option (Int32 × St)) (x1 : Int32) (x2 : Int32) (S : St) : Option (Int32 × St) :=
  if 5 ≤ x2 then (x_bd (jMod_nextSupper S) (fun v4 S3 => jMod_days_h46 FU 0 v4 S3)) else (x_ld (S.1 9) 219 ((5 * x1) + x2) (fun v10 => x_gd 5 x2 (x_lt (upI S 16 (Int32.toNatClampNeg x2) v10) (fun S11 => K12 x1 (x2 + 1) S11))))
def jMod_days_h12 : Nat → Int32 → Int32 → St → Option (Int32 × St)
  | 0, _, _, _ => none
  | n + 1, x1, x2, S => jMod_days_b12 (jMod_days_h12 n) x1 x2 S
def jMod_days (x1 : Int32) (S : St) : Option (Int32 × St) :=
  x_bd (jMod_isHouse x1 S) (fun v2 S1 => if v2 = 0 then (some ((-1), S1)) else (jMod_days_h12 FU x1 0 S1))
def jMod_saidBy_b77 (K6 : Int32 → Int32 → Int32 → Int32 → Int32 → St → Option (Int32 × St)) (K77 : Int32 → Int32 → Int32 → Int32 → Int32 → Int32 → St → Option (Int32 × St)) (x1 : Int32) (x2 : Int32) (x3 : Int32) (x4 : Int32) (x5 : Int32) (x6 : Int32) (S : St) : Option (Int32 × St) :=
  if x5 ≤ x6 then (K6 x1 x2 x3 x4 (x5 + 1) S) else (if ((x1 >>> (x6 &&& 31)) &&& 1) = 1 then (x_ld (S.1 6) 16 x5 (fun v6 => x_ld (S.1 6) 16 x6 (fun v7 => x_bd (jMod_bitsIn (v6 ^^^ v7) S) (fun v9 S8 => if x3 ≤ v9 then (K77 x1 x2 x3 x4 x5 (x6 + 1) S8) else (some ((-9), S8)))))) else (K77 x1 x2 x3 x4 x5 (x6 + 1) S))
def jMod_saidBy_h77 (K6 : Int32 → Int32 → Int32 → Int32 → Int32 → St → Option (Int32 × St)) : Nat → Int32 → Int32 → Int32 → Int32 → Int32 → Int32 → St → Option (Int32 × St)
  | 0, _, _, _, _, _, _, _ => none
  | n + 1, x1, x2, x3, x4, x5, x6, S => jMod_saidBy_b77 K6 (jMod_saidBy_h77 K6 n) x1 x2 x3 x4 x5 x6 S
def jMod_saidBy_b6 (K6 : Int32 → Int32 → Int32 → Int32 → Int32 → St → Option (Int32 × St)) (x1 : Int32) (x2 : Int32) (x3 : Int32) (x4 : Int32) (x5 : Int32) (S : St) : Option (Int32 × St) :=
  x_ld (S.1 4) 2 0 (fun v1 => if v1 ≤ x5 then (some (x4, S)) else (if ((x1 >>> (x5 &&& 31)) &&& 1) = 1 then (x_ld (S.1 7) 16 x5 (fun v2 => if ((x2 >>> (v2 &&& 31)) &&& 1) = 0 then (some ((-9), S)) else (x_ld (S.1 7) 16 x5 (fun v3 => if ((x4 >>> (v3 &&& 31)) &&& 1) = 1 then (some ((-9), S)) else (x_ld (S.1 7) 16 x5 (fun v4 => x_lt (x4 ||| (1 <<< (v4 &&& 31))) (fun v5 => jMod_saidBy_h77 K6 FU x1 x2 x3 v5 x5 0 S))))))) else (K6 x1 x2 x3 x4 (x5 + 1) S)))
def jMod_saidBy_h6 : Nat → Int32 → Int32 → Int32 → Int32 → Int32 → St → Option (Int32 × St)
  | 0, _, _, _, _, _, _ => none
  | n + 1, x1, x2, x3, x4, x5, S => jMod_saidBy_b6 (jMod_saidBy_h6 n) x1 x2 x3 x4 x5 S
def jMod_saidBy (x1 : Int32) (x2 : Int32) (x3 : Int32) (S : St) : Option (Int32 × St) :=
  jMod_saidBy_h6 FU x1 x2 x3 0 0 S
def jMod_code_b78 (K50 : Int32 → Int32 → Int32 → Int32 → Int32 → Int32 → St → Option (Int32 × St)) (x1 : Int32) (x2 : Int32) (x3 : Int32) (x5 : Int32) (x6 : Int32) (x7 : Int32) (s0 : Int32) (S : St) : Option (Int32 × St) :=
  if x7 = (-9) then (K50 x1 x2 x3 s0 x5 (x6 + (-1)) S) else (x_bd (jMod_bitsIn x6 S) (fun v12 S11 => if v12 ≤ x5 then (K50 x1 x2 x3 s0 x5 (x6 + (-1)) S11) else (x_bd (jMod_bitsIn x6 S11) (fun v14 S13 => K50 x1 x2 x3 s0 v14 (x6 + (-1)) S13))))
def jMod_code_b50 (K50 : Int32 → Int32 → Int32 → Int32 → Int32 → Int32 → St → Option (Int32 × St)) (x1 : Int32) (x2 : Int32) (x3 : Int32) (x4 : Int32) (x5 : Int32) (x6 : Int32) (S : St) : Option (Int32 × St) :=
  if x6 < 0 then (if x3 = 0 then (some (x4, S)) else (some (x5, S))) else (x_bd (jMod_saidBy x6 x1 x2 S) (fun v10 S9 => if v10 = x1 then (jMod_code_b78 K50 x1 x2 x3 x5 x6 v10 x6 S9) else (jMod_code_b78 K50 x1 x2 x3 x5 x6 v10 x4 S9)))
def jMod_code_h50 : Nat → Int32 → Int32 → Int32 → Int32 → Int32 → Int32 → St → Option (Int32 × St)
  | 0, _, _, _, _, _, _, _ => none
  | n + 1, x1, x2, x3, x4, x5, x6, S => jMod_code_b50 (jMod_code_h50 n) x1 x2 x3 x4 x5 x6 S
def jMod_code (x1 : Int32) (x2 : Int32) (x3 : Int32) (S : St) : Option (Int32 × St) :=
  x_bd (jMod_in x1 0 255 S) (fun v2 S1 => if v2 = 0 then (some ((-1), S1)) else (x_bd (jMod_in x2 1 3 S1) (fun v4 S3 => if v4 = 0 then (some ((-1), S3)) else (x_bd (jMod_in x3 0 1 S3) (fun v6 S5 => if v6 = 0 then (some ((-1), S5)) else (x_ld (S5.1 4) 2 0 (fun v7 => x_lt ((1 <<< (v7 &&& 31)) - 1) (fun v8 => jMod_code_h50 FU x1 x2 x3 (-9) 0 v8 S5))))))))
def jMod_feast_b71 (K37 : Int32 → Int32 → Int32 → Int32 → Int32 → St → Option (Int32 × St)) (x2 : Int32) (x3 : Int32) (x5 : Int32) (x6 : Int32) (s0 : Int32) (s1 : Int32) (S : St) : Option (Int32 × St) :=
  x_lt (s1 ||| s0) (fun v8 => if ((x3 >>> (x6 &&& 31)) &&& 1) = 1 then (x_ld (S.1 7) 16 x6 (fun v10 => x_lt (x5 ||| (1 <<< (v10 &&& 31))) (fun v11 => K37 x2 x3 v8 v11 (x6 + 1) S))) else (x_lt (x5 ||| 0) (fun v9 => K37 x2 x3 v8 v9 (x6 + 1) S)))
def jMod_feast_b37 (K37 : Int32 → Int32 → Int32 → Int32 → Int32 → St → Option (Int32 × St)) (x2 : Int32) (x3 : Int32) (x4 : Int32) (x5 : Int32) (x6 : Int32) (S : St) : Option (Int32 × St) :=
  x_ld (S.1 4) 2 0 (fun v5 => if v5 ≤ x6 then (x_bd (jMod_meant x4 S) (fun v7 S6 => if x2 = 0 then (some (x4, S6)) else (if x2 = 1 then (some (v7, S6)) else (if v7 = (-9) then (some (v7, S6)) else (some (1 - ((x5 >>> (v7 &&& 31)) &&& 1), S6)))))) else (if ((x3 >>> (x6 &&& 31)) &&& 1) = 1 then (x_ld (S.1 6) 16 x6 (fun v12 => jMod_feast_b71 K37 x2 x3 x5 x6 v12 x4 S)) else (jMod_feast_b71 K37 x2 x3 x5 x6 0 x4 S)))
def jMod_feast_h37 : Nat → Int32 → Int32 → Int32 → Int32 → Int32 → St → Option (Int32 × St)
  | 0, _, _, _, _, _, _ => none
  | n + 1, x2, x3, x4, x5, x6, S => jMod_feast_b37 (jMod_feast_h37 n) x2 x3 x4 x5 x6 S
def jMod_feast (x1 : Int32) (x2 : Int32) (S : St) : Option (Int32 × St) :=
  x_ld (S.1 4) 2 0 (fun v1 => x_lt (x1 &&& ((1 <<< (v1 &&& 31)) - 1)) (fun v2 => if v2 = 0 then (some ((-1), S)) else (x_bd (jMod_in x2 0 2 S) (fun v4 S3 => if v4 = 0 then (some ((-1), S3)) else (jMod_feast_h37 FU x2 v2 0 0 0 S3)))))
def jMod_silent_b25 (K25 : Int32 → Int32 → Int32 → St → Option (Int32 × St)) (x1 : Int32) (x2 : Int32) (x3 : Int32) (S : St) : Option (Int32 × St) :=
  x_ld (S.1 9) 219 32 (fun v5 => if v5 ≤ x3 then (some (x2, S)) else (x_ld (S.1 9) 219 32 (fun v6 => if x3 < (v6 - x1) then (x_lt (x2 &&& (-1)) (fun v7 => K25 x1 v7 (x3 + 1) S)) else (x_ld (S.1 9) 219 (33 + (2 * x3)) (fun v8 => x_lt (x2 &&& ((1 <<< (v8 &&& 31)) ^^^ (-1))) (fun v9 => K25 x1 v9 (x3 + 1) S))))))
def jMod_silent_h25 : Nat → Int32 → Int32 → Int32 → St → Option (Int32 × St)
  | 0, _, _, _, _ => none
  | n + 1, x1, x2, x3, S => jMod_silent_b25 (jMod_silent_h25 n) x1 x2 x3 S
def jMod_silent (x1 : Int32) (S : St) : Option (Int32 × St) :=
  x_bd (jMod_in x1 1 20 S) (fun v2 S1 => if v2 = 0 then (some ((-1), S1)) else (x_ld (S1.1 2) 2 0 (fun v3 => x_lt ((1 <<< (v3 &&& 31)) - 1) (fun v4 => jMod_silent_h25 FU x1 v4 0 S1))))
def jMod_drawn_b13 (K13 : Int32 → Int32 → St → Option (Int32 × St)) (x2 : Int32) (x3 : Int32) (S : St) : Option (Int32 × St) :=
  if 3 ≤ x3 then (some (x2, S)) else (x_ld (S.1 9) 219 31 (fun v3 => x_gd 219 31 (x_lt (upI S 9 (Int32.toNatClampNeg 31) ((v3 * 1103515245) + 12345)) (fun S4 => x_ld (S4.1 9) 219 31 (fun v5 => if (10 : Int32) = 0 then none else (x_ld (S4.1 9) 219 30 (fun v6 => if v6 ≤ ((x_ush v5 16) - (x_ush v5 16) / 10 * 10) then (x_lt (x2 ^^^ 0) (fun v7 => K13 v7 (x3 + 1) S4)) else (x_lt (x2 ^^^ (1 <<< (x3 &&& 31))) (fun v8 => K13 v8 (x3 + 1) S4)))))))))
def jMod_drawn_h13 : Nat → Int32 → Int32 → St → Option (Int32 × St)
  | 0, _, _, _ => none
  | n + 1, x2, x3, S => jMod_drawn_b13 (jMod_drawn_h13 n) x2 x3 S
def jMod_drawn (x1 : Int32) (S : St) : Option (Int32 × St) :=
  x_bd (jMod_isSmoke x1 S) (fun v2 S1 => if v2 = 0 then (some ((-1), S1)) else (jMod_drawn_h13 FU x1 0 S1))
def jMod_lot (x1 : Int32) (S : St) : Option (Int32 × St) :=
  x_ld (S.1 9) 219 31 (fun v1 => x_gd 219 31 (x_lt (upI S 9 (Int32.toNatClampNeg 31) x1) (fun S2 => some (v1, S2))))
def jMod_mark (x1 : Int32) (x2 : Int32) (S : St) : Option (Int32 × St) :=
  x_bd (jMod_in x1 0 5 S) (fun v2 S1 => if v2 = 0 then (some ((-1000000), S1)) else (x_bd (jMod_isDish x2 S1) (fun v4 S3 => if v4 = 0 then (some ((-1000000), S3)) else (x_bd (jMod_unitsOf x2 S3) (fun v6 S5 => if x1 = 0 then (x_lt (upL S5 0 0 ((S5.2 0 0) + 1)) (fun S7 => some (v6, S7))) else (if x1 = 1 then (x_lt (upL S5 0 0 ((S5.2 0 0) + 11)) (fun S8 => some (2 * v6, S8))) else (if x1 = 2 then (x_lt (upL S5 0 0 ((S5.2 0 0) + 101)) (fun S9 => x_ld (S9.1 6) 16 x2 (fun v10 => some (v6 + v10, S9)))) else (if x1 = 3 then (x_lt (upL S5 0 0 ((S5.2 0 0) + 1011)) (fun S11 => some ((2 * v6) + x2, S11))) else (if x1 = 4 then (x_lt (upL S5 0 0 ((S5.2 0 0) + 10101)) (fun S12 => x_ld (S12.1 6) 16 x2 (fun v13 => x_ld (S12.1 7) 16 x2 (fun v14 => some ((v6 + v13) - v14, S12))))) else (x_lt (upL S5 0 0 ((S5.2 0 0) + 100001)) (fun S15 => x_ld (S15.1 9) 219 32 (fun v16 => some (v6 + v16, S15)))))))))))))
def jMod_copy_b2 (K2 : Int32 → Int32 → Int32 → St → Option (St)) (x1 : Int32) (x2 : Int32) (x3 : Int32) (S : St) : Option (St) :=
  if 73 ≤ x3 then (some S) else (x_ld (S.1 9) 219 (x1 + x3) (fun v1 => x_gd 219 (x2 + x3) (x_lt (upI S 9 (Int32.toNatClampNeg (x2 + x3)) v1) (fun S2 => K2 x1 x2 (x3 + 1) S2))))
def jMod_copy_h2 : Nat → Int32 → Int32 → Int32 → St → Option (St)
  | 0, _, _, _, _ => none
  | n + 1, x1, x2, x3, S => jMod_copy_b2 (jMod_copy_h2 n) x1 x2 x3 S
def jMod_copy (x1 : Int32) (x2 : Int32) (S : St) : Option (St) :=
  jMod_copy_h2 FU x1 x2 0 S
def jMod_keep (x1 : Int32) (S : St) : Option (Int32 × St) :=
  x_bd (jMod_in x1 0 1 S) (fun v2 S1 => if v2 = 0 then (some ((-1), S1)) else (x_bv (jMod_copy 0 (73 * (1 + x1)) S1) (fun S3 => x_gd 2 x1 (x_lt (upI S3 10 (Int32.toNatClampNeg x1) (vp_nar .boolean 1)) (fun S4 => x_ld (S4.1 9) 219 32 (fun v5 => some (v5, S4)))))))
def jMod_back (x1 : Int32) (S : St) : Option (Int32 × St) :=
  x_bd (jMod_in x1 0 1 S) (fun v2 S1 => if v2 = 0 then (some ((-1), S1)) else (x_ld (S1.1 10) 2 x1 (fun v3 => if v3 = 0 then (some ((-2), S1)) else (x_bv (jMod_copy (73 * (1 + x1)) 0 S1) (fun S4 => x_ld (S4.1 9) 219 32 (fun v5 => some (v5, S4)))))))
def jMod_count (x1 : Int32) (S : St) : Option (Int32 × St) :=
  if x1 = 0 then (x_ld (S.1 2) 2 0 (fun v4 => some (v4, S))) else (if x1 = 1 then (x_ld (S.1 4) 2 0 (fun v3 => some (v3, S))) else (if x1 = 2 then (x_ld (S.1 9) 219 32 (fun v2 => some (v2, S))) else (if x1 = 3 then (x_ld (S.1 9) 219 30 (fun v1 => some (v1, S))) else (if x1 = 4 then (some (S.1 0 2, S)) else (some ((-1), S))))))
def jMod_trace (S : St) : Option (Int64 × St) :=
  some (S.2 0 0, S)
