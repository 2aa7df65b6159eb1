def jText_append (x1 : Int32) (S : St) : Option (St) :=
  if (S.1 1 1) < 300 then (x_gd 300 (S.1 1 1) (x_lt (upI S 2 (Int32.toNatClampNeg (S.1 1 1)) x1) (fun S1 => x_lt (upI S1 1 1 ((S1.1 1 1) + 1)) (fun S2 => some S2)))) else (some S)
def jSmoke_type_b36 (K36 : Int64 → Int32 → St → Option (Int32 × St)) (y1 : Int64) (x4 : Int32) (S : St) : Option (Int32 × St) :=
  if x4 < 0 then (some (S.1 1 1, S)) else (x_bv (jText_append ((Int64.toInt32 (x_lushr y1 (8 * x4))) &&& 255) S) (fun S2 => K36 y1 (x4 + (-1)) S2))
def jSmoke_type_h36 : Nat → Int64 → Int32 → St → Option (Int32 × St)
  | 0, _, _, _ => none
  | n + 1, y1, x4, S => jSmoke_type_b36 (jSmoke_type_h36 n) y1 x4 S
def jSmoke_type (y1 : Int64) (x3 : Int32) (S : St) : Option (Int32 × St) :=
  if x3 < 1 then (some ((-1), S)) else (if x3 ≤ 8 then (if ((S.1 1 1) + x3) ≤ 300 then (x_lt (x3 - 1) (fun v1 => jSmoke_type_h36 FU y1 v1 S)) else (some ((-3), S))) else (some ((-1), S)))
def jSmoke_clear (S : St) : Option (Int32 × St) :=
  x_lt (S.1 1 1) (fun v1 => x_lt (upI S 1 1 0) (fun S2 => some (v1, S2)))
def jText_isDigit (x0 : Int32) (S : St) : Option (Int32 × St) :=
  if x0 < 48 then (x_nr 0 (some (0, S))) else (if 57 < x0 then (x_nr 0 (some (0, S))) else (x_nr 1 (some (1, S))))
def jText_isLetter (x0 : Int32) (S : St) : Option (Int32 × St) :=
  if x0 < 97 then (x_nr 0 (some (0, S))) else (if 122 < x0 then (x_nr 0 (some (0, S))) else (x_nr 1 (some (1, S))))
def jText_spells_0_b20 (K20 : Int32 → St → Option (Int32 × St)) (x2 : Int32) (S : St) : Option (Int32 × St) :=
  if 5 ≤ x2 then (x_nr 1 (some (1, S))) else (x_ld (S.1 2) 300 ((S.1 1 3) + x2) (fun v1 => x_ld (sc_ch 0) 5 x2 (fun v2 => if v1 = v2 then (K20 (x2 + 1) S) else (x_nr 0 (some (0, S))))))
def jText_spells_0_h20 : Nat → Int32 → St → Option (Int32 × St)
  | 0, _, _ => none
  | n + 1, x2, S => jText_spells_0_b20 (jText_spells_0_h20 n) x2 S
def jText_spells_0 (S : St) : Option (Int32 × St) :=
  if ((S.1 1 2) - (S.1 1 3)) = 5 then (jText_spells_0_h20 FU 0 S) else (x_nr 0 (some (0, S)))
def jText_spells_1_b20 (K20 : Int32 → St → Option (Int32 × St)) (x2 : Int32) (S : St) : Option (Int32 × St) :=
  if 4 ≤ x2 then (x_nr 1 (some (1, S))) else (x_ld (S.1 2) 300 ((S.1 1 3) + x2) (fun v1 => x_ld (sc_ch 1) 4 x2 (fun v2 => if v1 = v2 then (K20 (x2 + 1) S) else (x_nr 0 (some (0, S))))))
def jText_spells_1_h20 : Nat → Int32 → St → Option (Int32 × St)
  | 0, _, _ => none
  | n + 1, x2, S => jText_spells_1_b20 (jText_spells_1_h20 n) x2 S
def jText_spells_1 (S : St) : Option (Int32 × St) :=
  if ((S.1 1 2) - (S.1 1 3)) = 4 then (jText_spells_1_h20 FU 0 S) else (x_nr 0 (some (0, S)))
def jText_spells_2_b20 (K20 : Int32 → St → Option (Int32 × St)) (x2 : Int32) (S : St) : Option (Int32 × St) :=
  if 3 ≤ x2 then (x_nr 1 (some (1, S))) else (x_ld (S.1 2) 300 ((S.1 1 3) + x2) (fun v1 => x_ld (sc_ch 2) 3 x2 (fun v2 => if v1 = v2 then (K20 (x2 + 1) S) else (x_nr 0 (some (0, S))))))
def jText_spells_2_h20 : Nat → Int32 → St → Option (Int32 × St)
  | 0, _, _ => none
  | n + 1, x2, S => jText_spells_2_b20 (jText_spells_2_h20 n) x2 S
def jText_spells_2 (S : St) : Option (Int32 × St) :=
  if ((S.1 1 2) - (S.1 1 3)) = 3 then (jText_spells_2_h20 FU 0 S) else (x_nr 0 (some (0, S)))
def jText_readName_b39 (S : St) : Option (Int32 × St) :=
  x_bd (jText_spells_0 S) (fun v2 S1 => if v2 = 0 then (x_bd (jText_spells_1 S1) (fun v4 S3 => if v4 = 0 then (x_bd (jText_spells_2 S3) (fun v6 S5 => if v6 = 0 then (some (1, S5)) else (some (6, S5)))) else (some (5, S3)))) else (some (4, S1)))
def jText_readName_b0 (K0 : St → Option (Int32 × St)) (S : St) : Option (Int32 × St) :=
  if (S.1 1 1) ≤ (S.1 1 2) then (jText_readName_b39 S) else (x_ld (S.1 2) 300 (S.1 1 2) (fun v7 => x_bd (jText_isLetter v7 S) (fun v9 S8 => if v9 = 0 then (jText_readName_b39 S8) else (x_lt (upI S8 1 2 ((S8.1 1 2) + 1)) (fun S10 => K0 S10)))))
def jText_readName_h0 : Nat → St → Option (Int32 × St)
  | 0, _ => none
  | n + 1, S => jText_readName_b0 (jText_readName_h0 n) S
def jText_readName (S : St) : Option (Int32 × St) := jText_readName_h0 FU S
def jText_readNumber_b96 (x1 : Int32) (S : St) : Option (Int32 × St) :=
  x_lt ((S.1 1 2) - (S.1 1 3)) (fun v2 => if 2 < v2 then (some (1, S)) else (if v2 ≤ 1 then (some (2, S)) else (if x1 = 0 then (some (2, S)) else (some (1, S)))))
def jText_readNumber_b83 (K20 : Int32 → St → Option (Int32 × St)) (x1 : Int32) (S : St) : Option (Int32 × St) :=
  x_lt (upI S 1 2 ((S.1 1 2) + 1)) (fun S6 => K20 x1 S6)
def jText_readNumber_b20 (K20 : Int32 → St → Option (Int32 × St)) (x1 : Int32) (S : St) : Option (Int32 × St) :=
  if (S.1 1 1) ≤ (S.1 1 2) then (jText_readNumber_b96 x1 S) else (x_ld (S.1 2) 300 (S.1 1 2) (fun v3 => x_bd (jText_isDigit v3 S) (fun v5 S4 => if v5 = 0 then (jText_readNumber_b96 x1 S4) else (if 2 ≤ ((S4.1 1 2) - (S4.1 1 3)) then (jText_readNumber_b83 K20 x1 S4) else (x_ld (S4.1 2) 300 (S4.1 1 2) (fun v7 => x_lt (upI S4 1 5 ((((S4.1 1 5) * 10) + v7) - 48)) (fun S8 => jText_readNumber_b83 K20 x1 S8)))))))
def jText_readNumber_h20 : Nat → Int32 → St → Option (Int32 × St)
  | 0, _, _ => none
  | n + 1, x1, S => jText_readNumber_b20 (jText_readNumber_h20 n) x1 S
def jText_readNumber (S : St) : Option (Int32 × St) :=
  x_ld (S.1 2) 300 (S.1 1 3) (fun v1 => if v1 = 48 then (jText_readNumber_h20 FU 1 S) else (jText_readNumber_h20 FU 0 S))
def jText_step_b142 (s0 : Int32) (S : St) : Option (St) :=
  x_lt (upI S 1 4 s0) (fun S10 => x_lt (upI S10 1 2 ((S10.1 1 2) + 1)) (fun S11 => some S11))
def jText_step_b38 (S : St) : Option (St) :=
  x_lt (upI S 1 3 (S.1 1 2)) (fun S1 => x_lt (upI S1 1 5 0) (fun S2 => if (S2.1 1 2) < (S2.1 1 1) then (x_ld (S2.1 2) 300 (S2.1 1 2) (fun v3 => x_bd (jText_isDigit v3 S2) (fun v5 S4 => if v5 = 0 then (x_ld (S4.1 2) 300 (S4.1 1 2) (fun v6 => x_bd (jText_isLetter v6 S4) (fun v8 S7 => if v8 = 0 then (x_ld (S7.1 2) 300 (S7.1 1 2) (fun v9 => if v9 = 59 then (jText_step_b142 3 S7) else (jText_step_b142 1 S7))) else (x_bd (jText_readName S7) (fun v13 S12 => x_lt (upI S12 1 4 v13) (fun S14 => some S14)))))) else (x_bd (jText_readNumber S4) (fun v16 S15 => x_lt (upI S15 1 4 v16) (fun S17 => some S17)))))) else (x_lt (upI S2 1 4 0) (fun S18 => some S18))))
def jText_step_b0 (K0 : St → Option (St)) (S : St) : Option (St) :=
  if (S.1 1 1) ≤ (S.1 1 2) then (jText_step_b38 S) else (x_ld (S.1 2) 300 (S.1 1 2) (fun v19 => if v19 = 32 then (x_lt (upI S 1 2 ((S.1 1 2) + 1)) (fun S20 => K0 S20)) else (jText_step_b38 S)))
def jText_step_h0 : Nat → St → Option (St)
  | 0, _ => none
  | n + 1, S => jText_step_b0 (jText_step_h0 n) S
def jText_step (S : St) : Option (St) := jText_step_h0 FU S
def jText_rewind (S : St) : Option (St) :=
  x_lt (upI S 1 2 0) (fun S1 => x_bv (jText_step S1) (fun S2 => some S2))
def jTelling_mayBegin (x1 : Int32) (S : St) : Option (Int32 × St) :=
  if x1 = 4 then (if 6 ≤ (S.1 9 3) then (x_nr 0 (some (0, S))) else (x_nr 1 (some (1, S)))) else (if x1 = 5 then (if 8 ≤ (S.1 4 4) then (x_nr 0 (some (0, S))) else (x_nr 1 (some (1, S)))) else (if x1 = 6 then (if (S.1 3 3) = 0 then (x_nr 1 (some (1, S))) else (x_nr 0 (some (0, S)))) else (x_nr 0 (some (0, S)))))
def jTelling_numbersOf (x0 : Int32) (S : St) : Option (Int32 × St) :=
  if x0 = 4 then (some (5, S)) else (if x0 = 5 then (some (7, S)) else (if x0 = 6 then (some (1, S)) else (some (0, S))))
def jMenu_list_b21 (K21 : Int32 → Int32 → St → Option (St)) (x2 : Int32) (x3 : Int32) (S : St) : Option (St) :=
  if 5 ≤ x3 then (x_gd 8 (S.1 4 4) (x_lt (upI S 6 (Int32.toNatClampNeg (S.1 4 4)) x2) (fun S1 => x_ld (S1.1 13) 7 5 (fun v2 => x_gd 8 (S1.1 4 4) (x_lt (upI S1 7 (Int32.toNatClampNeg (S1.1 4 4)) v2) (fun S3 => x_ld (S3.1 13) 7 6 (fun v4 => x_gd 8 (S3.1 4 4) (x_lt (upI S3 8 (Int32.toNatClampNeg (S3.1 4 4)) v4) (fun S5 => x_lt (upI S5 4 4 ((S5.1 4 4) + 1)) (fun S6 => some S6)))))))))) else (x_ld (S.1 13) 7 x3 (fun v7 => x_gd 40 (((S.1 4 4) * 5) + x3) (x_lt (upI S 5 (Int32.toNatClampNeg (((S.1 4 4) * 5) + x3)) v7) (fun S8 => x_ld (S8.1 13) 7 x3 (fun v9 => x_lt (x2 + v9) (fun v10 => K21 v10 (x3 + 1) S8))))))
def jMenu_list_h21 : Nat → Int32 → Int32 → St → Option (St)
  | 0, _, _, _ => none
  | n + 1, x2, x3, S => jMenu_list_b21 (jMenu_list_h21 n) x2 x3 S
def jMenu_list (S : St) : Option (St) :=
  if 8 ≤ (S.1 4 4) then (some S) else (if 7 ≤ (7 : Int32) then (jMenu_list_h21 FU 0 0 S) else (some S))
def jSuppers_settle_b18 (K18 : Int32 → St → Option (St)) (x2 : Int32) (S : St) : Option (St) :=
  if 5 ≤ x2 then (x_lt (upI S 9 3 ((S.1 9 3) + 1)) (fun S1 => some S1)) else (x_ld (S.1 13) 7 x2 (fun v2 => x_gd 30 (((S.1 9 3) * 5) + x2) (x_lt (upI S 10 (Int32.toNatClampNeg (((S.1 9 3) * 5) + x2)) v2) (fun S3 => K18 (x2 + 1) S3))))
def jSuppers_settle_h18 : Nat → Int32 → St → Option (St)
  | 0, _, _ => none
  | n + 1, x2, S => jSuppers_settle_b18 (jSuppers_settle_h18 n) x2 S
def jSuppers_settle (S : St) : Option (St) :=
  if 6 ≤ (S.1 9 3) then (some S) else (if 5 ≤ (7 : Int32) then (jSuppers_settle_h18 FU 0 S) else (some S))
def jTelling_draft (x1 : Int32) (S : St) : Option (St) :=
  if x1 = 4 then (x_bv (jSuppers_settle S) (fun S5 => some S5)) else (if x1 = 5 then (x_bv (jMenu_list S) (fun S4 => some S4)) else (x_ld (S.1 13) 7 0 (fun v1 => x_lt (upI S 9 5 v1) (fun S2 => x_lt (upI S2 3 3 1) (fun S3 => some S3)))))
def jTelling_mostOf (x0 : Int32) (x1 : Int32) (S : St) : Option (Int32 × St) :=
  if x0 = 6 then (some (5, S)) else (if 5 ≤ x1 then (if x1 = 5 then (some (7, S)) else (some (7, S))) else (some (9, S)))
def jTelling_readItem_b27 (K27 : Int32 → Int32 → Int32 → St → Option (Int32 × St)) (x2 : Int32) (x3 : Int32) (x4 : Int32) (S : St) : Option (Int32 × St) :=
  if x3 ≤ x4 then (if (S.1 1 4) = 3 then (x_bv (jTelling_draft x2 S) (fun S7 => x_bv (jText_step S7) (fun S8 => x_nr 1 (some (1, S8))))) else (x_nr 0 (some (0, S)))) else (if (S.1 1 4) = 2 then (x_bd (jTelling_mostOf x2 x4 S) (fun v10 S9 => if (S.1 1 5) ≤ v10 then (x_gd 7 x4 (x_lt (upI S9 13 (Int32.toNatClampNeg x4) (S9.1 1 5)) (fun S11 => x_bv (jText_step S11) (fun S12 => K27 x2 x3 (x4 + 1) S12)))) else (x_nr 0 (some (0, S9))))) else (x_nr 0 (some (0, S))))
def jTelling_readItem_h27 : Nat → Int32 → Int32 → Int32 → St → Option (Int32 × St)
  | 0, _, _, _, _ => none
  | n + 1, x2, x3, x4, S => jTelling_readItem_b27 (jTelling_readItem_h27 n) x2 x3 x4 S
def jTelling_readItem (S : St) : Option (Int32 × St) :=
  x_lt (S.1 1 4) (fun v1 => x_bd (jTelling_mayBegin v1 S) (fun v3 S2 => if v3 = 0 then (x_nr 0 (some (0, S2))) else (x_bv (jText_step S2) (fun S4 => x_bd (jTelling_numbersOf v1 S4) (fun v6 S5 => jTelling_readItem_h27 FU v1 v6 0 S5)))))
def jTelling_readAll_b43 (K43 : Int32 → St → Option (Int32 × St)) (x2 : Int32) (S : St) : Option (Int32 × St) :=
  if 300 < x2 then (some ((-1), S)) else (if (S.1 1 4) = 0 then (some (x2, S)) else (x_bd (jTelling_readItem S) (fun v8 S7 => if v8 = 0 then (some ((-1), S7)) else (K43 (x2 + 1) S7))))
def jTelling_readAll_h43 : Nat → Int32 → St → Option (Int32 × St)
  | 0, _, _ => none
  | n + 1, x2, S => jTelling_readAll_b43 (jTelling_readAll_h43 n) x2 S
def jTelling_readAll (S : St) : Option (Int32 × St) :=
  x_lt (upI S 4 4 0) (fun S1 => x_lt (upI S1 9 3 0) (fun S2 => x_lt (upI S2 9 4 0) (fun S3 => x_lt (upI S3 9 5 0) (fun S4 => x_lt (upI S4 3 3 0) (fun S5 => x_bv (jText_rewind S5) (fun S6 => jTelling_readAll_h43 FU 0 S6))))))
def jMenu_become_b36 (K36 : Int32 → St → Option (St)) (x2 : Int32) (S : St) : Option (St) :=
  if 8 ≤ x2 then (some S) else (x_ld (S.1 6) 8 x2 (fun v2 => x_gd 8 x2 (x_lt (upI S 16 (Int32.toNatClampNeg x2) v2) (fun S3 => x_ld (S3.1 7) 8 x2 (fun v4 => x_gd 8 x2 (x_lt (upI S3 17 (Int32.toNatClampNeg x2) v4) (fun S5 => x_ld (S5.1 8) 8 x2 (fun v6 => x_gd 8 x2 (x_lt (upI S5 18 (Int32.toNatClampNeg x2) v6) (fun S7 => K36 (x2 + 1) S7))))))))))
def jMenu_become_h36 : Nat → Int32 → St → Option (St)
  | 0, _, _ => none
  | n + 1, x2, S => jMenu_become_b36 (jMenu_become_h36 n) x2 S
def jMenu_become_b10 (K10 : Int32 → St → Option (St)) (x2 : Int32) (S : St) : Option (St) :=
  if 40 ≤ x2 then (jMenu_become_h36 FU 0 S) else (x_ld (S.1 5) 40 x2 (fun v8 => x_gd 40 x2 (x_lt (upI S 15 (Int32.toNatClampNeg x2) v8) (fun S9 => K10 (x2 + 1) S9))))
def jMenu_become_h10 : Nat → Int32 → St → Option (St)
  | 0, _, _ => none
  | n + 1, x2, S => jMenu_become_b10 (jMenu_become_h10 n) x2 S
def jMenu_become (S : St) : Option (St) :=
  x_lt (upI S 14 4 (S.1 4 4)) (fun S1 => jMenu_become_h10 FU 0 S1)
def jSuppers_become_19_9_b60 (K60 : Int32 → St → Option (St)) (x2 : Int32) (S : St) : Option (St) :=
  if 20 ≤ x2 then (some S) else (x_ld (S.1 11) 20 x2 (fun v5 => x_gd 20 x2 (x_lt (upI S 21 (Int32.toNatClampNeg x2) v5) (fun S6 => x_ld (S6.1 12) 20 x2 (fun v7 => x_gd 20 x2 (x_lt (upI S6 22 (Int32.toNatClampNeg x2) v7) (fun S8 => K60 (x2 + 1) S8)))))))
def jSuppers_become_19_9_h60 : Nat → Int32 → St → Option (St)
  | 0, _, _ => none
  | n + 1, x2, S => jSuppers_become_19_9_b60 (jSuppers_become_19_9_h60 n) x2 S
def jSuppers_become_19_9_b34 (K34 : Int32 → St → Option (St)) (x2 : Int32) (S : St) : Option (St) :=
  if 30 ≤ x2 then (jSuppers_become_19_9_h60 FU 0 S) else (x_ld (S.1 10) 30 x2 (fun v9 => x_gd 30 x2 (x_lt (upI S 20 (Int32.toNatClampNeg x2) v9) (fun S10 => K34 (x2 + 1) S10))))
def jSuppers_become_19_9_h34 : Nat → Int32 → St → Option (St)
  | 0, _, _ => none
  | n + 1, x2, S => jSuppers_become_19_9_b34 (jSuppers_become_19_9_h34 n) x2 S
def jSuppers_become_19_9 (S : St) : Option (St) :=
  x_lt (upI S 19 3 (S.1 9 3)) (fun S1 => x_lt (upI S1 19 4 (S1.1 9 4)) (fun S2 => x_lt (upI S2 19 5 (S2.1 9 5)) (fun S3 => x_lt (upI S3 19 6 (S3.1 9 6)) (fun S4 => jSuppers_become_19_9_h34 FU 0 S4))))
def jSmoke_valley (S : St) : Option (Int32 × St) :=
  x_bd (jTelling_readAll S) (fun v2 S1 => if 0 ≤ v2 then (x_bv (jMenu_become S1) (fun S3 => x_lt (upI S3 9 6 (S3.1 19 6)) (fun S4 => x_bv (jSuppers_become_19_9 S4) (fun S5 => x_lt (upI S5 23 7 0) (fun S6 => x_lt (upI S6 27 7 0) (fun S7 => x_lt (upI S7 1 1 0) (fun S8 => some (v2, S8)))))))) else (some ((-10) - (S1.1 1 3), S1)))
def jSuppers_hasHouse (x1 : Int32) (S : St) : Option (Int32 × St) :=
  if x1 < 0 then (x_nr 0 (some (0, S))) else (if (S.1 19 3) ≤ x1 then (x_nr 0 (some (0, S))) else (x_nr 1 (some (1, S))))
def jSuppers_stock (x1 : Int32) (x2 : Int32) (S : St) : Option (Int32 × St) :=
  x_ld (S.1 20) 30 ((x1 * 5) + x2) (fun v1 => some (v1, S))
def jSuppers_allStock_b4 (K4 : Int32 → Int32 → Int32 → St → Option (Int32 × St)) (x1 : Int32) (x2 : Int32) (x3 : Int32) (S : St) : Option (Int32 × St) :=
  if 5 ≤ x3 then (some (x2, S)) else (x_bd (jSuppers_stock x1 x3 S) (fun v2 S1 => x_lt (x2 + v2) (fun v3 => K4 x1 v3 (x3 + 1) S1)))
def jSuppers_allStock_h4 : Nat → Int32 → Int32 → Int32 → St → Option (Int32 × St)
  | 0, _, _, _, _ => none
  | n + 1, x1, x2, x3, S => jSuppers_allStock_b4 (jSuppers_allStock_h4 n) x1 x2 x3 S
def jSuppers_allStock (x1 : Int32) (S : St) : Option (Int32 × St) :=
  jSuppers_allStock_h4 FU x1 0 0 S
def jSmoke_house (x1 : Int32) (x2 : Int32) (S : St) : Option (Int32 × St) :=
  x_bd (jSuppers_hasHouse x1 S) (fun v2 S1 => if v2 = 0 then (some ((-1), S1)) else (if x2 < 0 then (some ((-1), S1)) else (if x2 ≤ 5 then (if 5 ≤ x2 then (x_bd (jSuppers_allStock x1 S1) (fun v4 S3 => some (v4, S3))) else (x_bd (jSuppers_stock x1 x2 S1) (fun v6 S5 => some (v6, S5)))) else (some ((-1), S1)))))
def jMenu_lists (x1 : Int32) (S : St) : Option (Int32 × St) :=
  if x1 < 0 then (x_nr 0 (some (0, S))) else (if (S.1 14 4) ≤ x1 then (x_nr 0 (some (0, S))) else (x_nr 1 (some (1, S))))
def jMenu_need (x1 : Int32) (x2 : Int32) (S : St) : Option (Int32 × St) :=
  x_ld (S.1 15) 40 ((x1 * 5) + x2) (fun v1 => some (v1, S))
def jSmoke_dish (x1 : Int32) (x2 : Int32) (S : St) : Option (Int32 × St) :=
  x_bd (jMenu_lists x1 S) (fun v2 S1 => if v2 = 0 then (some ((-1), S1)) else (if 0 ≤ x2 then (if 5 ≤ x2 then (if x2 = 5 then (x_ld (S1.1 17) 8 x1 (fun v3 => some (v3, S1))) else (if x2 = 6 then (x_ld (S1.1 18) 8 x1 (fun v4 => some (v4, S1))) else (if x2 = 7 then (x_ld (S1.1 16) 8 x1 (fun v5 => some (v5, S1))) else (some ((-1), S1))))) else (x_bd (jMenu_need x1 x2 S1) (fun v7 S6 => some (v7, S6)))) else (some ((-1), S1))))
def jSuppers_fill_39_b2 (K2 : Int32 → Int32 → St → Option (St)) (x1 : Int32) (x3 : Int32) (S : St) : Option (St) :=
  if 5 ≤ x3 then (some S) else (x_bd (jSuppers_stock x1 x3 S) (fun v2 S1 => x_gd 5 x3 (x_lt (upI S1 39 (Int32.toNatClampNeg x3) v2) (fun S3 => K2 x1 (x3 + 1) S3))))
def jSuppers_fill_39_h2 : Nat → Int32 → Int32 → St → Option (St)
  | 0, _, _, _ => none
  | n + 1, x1, x3, S => jSuppers_fill_39_b2 (jSuppers_fill_39_h2 n) x1 x3 S
def jSuppers_fill_39 (x1 : Int32) (S : St) : Option (St) :=
  jSuppers_fill_39_h2 FU x1 0 S
def jMenu_fits_39_b2 (K2 : Int32 → Int32 → St → Option (Int32 × St)) (x1 : Int32) (x3 : Int32) (S : St) : Option (Int32 × St) :=
  if 5 ≤ x3 then (x_nr 1 (some (1, S))) else (x_bd (jMenu_need x1 x3 S) (fun v2 S1 => x_ld (S1.1 39) 5 x3 (fun v3 => if v2 ≤ v3 then (K2 x1 (x3 + 1) S1) else (x_nr 0 (some (0, S1))))))
def jMenu_fits_39_h2 : Nat → Int32 → Int32 → St → Option (Int32 × St)
  | 0, _, _, _ => none
  | n + 1, x1, x3, S => jMenu_fits_39_b2 (jMenu_fits_39_h2 n) x1 x3 S
def jMenu_fits_39 (x1 : Int32) (S : St) : Option (Int32 × St) :=
  jMenu_fits_39_h2 FU x1 0 S
def jSmoke_couldCook (x1 : Int32) (x2 : Int32) (S : St) : Option (Int32 × St) :=
  x_bv (jSuppers_fill_39 x1 S) (fun S1 => x_bd (jMenu_fits_39 x2 S1) (fun v3 S2 => x_nr v3 (some (v3, S2))))
def jSuppers_rise (x1 : Int32) (x2 : Int32) (S : St) : Option (St) :=
  if (S.1 19 4) < 20 then (x_gd 20 (S.1 19 4) (x_lt (upI S 21 (Int32.toNatClampNeg (S.1 19 4)) x1) (fun S1 => x_gd 20 (S1.1 19 4) (x_lt (upI S1 22 (Int32.toNatClampNeg (S1.1 19 4)) x2) (fun S2 => x_lt (upI S2 19 4 ((S2.1 19 4) + 1)) (fun S3 => some S3)))))) else (some S)
def jSuppers_change (x1 : Int32) (x2 : Int32) (x3 : Int32) (S : St) : Option (St) :=
  x_ld (S.1 20) 30 ((x1 * 5) + x2) (fun v1 => x_gd 30 ((x1 * 5) + x2) (x_lt (upI S 20 (Int32.toNatClampNeg ((x1 * 5) + x2)) (v1 + x3)) (fun S2 => some S2)))
def jSmoke_cook_b53 (K53 : Int32 → Int32 → Int32 → St → Option (Int32 × St)) (x1 : Int32) (x2 : Int32) (x3 : Int32) (S : St) : Option (Int32 × St) :=
  if 5 ≤ x3 then (x_bv (jSuppers_rise x1 x2 S) (fun S7 => x_ld (S7.1 17) 8 x2 (fun v8 => some (v8, S7)))) else (x_bd (jMenu_need x2 x3 S) (fun v10 S9 => x_bv (jSuppers_change x1 x3 (-v10) S9) (fun S11 => K53 x1 x2 (x3 + 1) S11)))
def jSmoke_cook_h53 : Nat → Int32 → Int32 → Int32 → St → Option (Int32 × St)
  | 0, _, _, _, _ => none
  | n + 1, x1, x2, x3, S => jSmoke_cook_b53 (jSmoke_cook_h53 n) x1 x2 x3 S
def jSmoke_cook (x1 : Int32) (x2 : Int32) (S : St) : Option (Int32 × St) :=
  x_bd (jSuppers_hasHouse x1 S) (fun v2 S1 => if v2 = 0 then (some ((-1), S1)) else (x_bd (jMenu_lists x2 S1) (fun v4 S3 => if v4 = 0 then (some ((-1), S3)) else (x_bd (jSmoke_couldCook x1 x2 S3) (fun v6 S5 => if v6 = 0 then (some ((-2), S5)) else (if (S5.1 19 4) < 20 then (jSmoke_cook_h53 FU x1 x2 0 S5) else (some ((-3), S5))))))))
def jSmoke_undo_b60 (K60 : Int32 → Int32 → Int32 → St → Option (Int32 × St)) (x1 : Int32) (x2 : Int32) (x3 : Int32) (S : St) : Option (Int32 × St) :=
  if 5 ≤ x3 then (some (S.1 19 4, S)) else (x_bd (jSuppers_stock x1 x3 S) (fun v5 S4 => x_lt (9 - v5) (fun v6 => x_bd (jMenu_need x2 x3 S4) (fun v8 S7 => x_bv (jSuppers_change x1 x3 (if v8 < v6 then v8 else v6) S7) (fun S9 => K60 x1 x2 (x3 + 1) S9)))))
def jSmoke_undo_h60 : Nat → Int32 → Int32 → Int32 → St → Option (Int32 × St)
  | 0, _, _, _, _ => none
  | n + 1, x1, x2, x3, S => jSmoke_undo_b60 (jSmoke_undo_h60 n) x1 x2 x3 S
def jSmoke_undo (S : St) : Option (Int32 × St) :=
  if 0 < (S.1 19 4) then (x_lt (upI S 19 4 ((S.1 19 4) - 1)) (fun S1 => x_ld (S1.1 21) 20 (S1.1 19 4) (fun v2 => x_ld (S1.1 22) 20 (S1.1 19 4) (fun v3 => jSmoke_undo_h60 FU v2 v3 0 S1)))) else (some ((-2), S))
def jSmoke_gives (x1 : Int32) (x2 : Int32) (x3 : Int32) (x4 : Int32) (S : St) : Option (Int32 × St) :=
  x_bd (jSuppers_hasHouse x1 S) (fun v2 S1 => if v2 = 0 then (some ((-1), S1)) else (x_bd (jSuppers_hasHouse x2 S1) (fun v4 S3 => if v4 = 0 then (some ((-1), S3)) else (if x1 = x2 then (some ((-1), S3)) else (if x3 < 0 then (some ((-1), S3)) else (if 5 ≤ x3 then (some ((-1), S3)) else (if x4 < 1 then (some ((-1), S3)) else (if x4 ≤ 9 then (x_bd (jSuppers_stock x1 x3 S3) (fun v6 S5 => if x4 ≤ v6 then (x_bd (jSuppers_stock x2 x3 S5) (fun v8 S7 => if (v8 + x4) ≤ 9 then (x_bv (jSuppers_change x1 x3 (-x4) S7) (fun S9 => x_bv (jSuppers_change x2 x3 x4 S9) (fun S10 => x_bd (jSuppers_stock x2 x3 S10) (fun v12 S11 => some (v12, S11))))) else (some ((-3), S7)))) else (some ((-2), S5)))) else (some ((-1), S3))))))))))
def jSmoke_burns_b24 (K24 : Int32 → Int32 → Int32 → St → Option (Int32 × St)) (x1 : Int32) (x2 : Int32) (x3 : Int32) (S : St) : Option (Int32 × St) :=
  if 5 ≤ x3 then (some (x2, S)) else (x_bd (jSuppers_stock x1 x3 S) (fun v6 S5 => x_bv (jSuppers_change x1 x3 (-v6) S5) (fun S7 => K24 x1 x2 (x3 + 1) S7)))
def jSmoke_burns_h24 : Nat → Int32 → Int32 → Int32 → St → Option (Int32 × St)
  | 0, _, _, _, _ => none
  | n + 1, x1, x2, x3, S => jSmoke_burns_b24 (jSmoke_burns_h24 n) x1 x2 x3 S
def jSmoke_burns (x1 : Int32) (S : St) : Option (Int32 × St) :=
  x_bd (jSuppers_hasHouse x1 S) (fun v2 S1 => if v2 = 0 then (some ((-1), S1)) else (x_bd (jSuppers_allStock x1 S1) (fun v4 S3 => jSmoke_burns_h24 FU x1 v4 0 S3)))
def jSmoke_plume (x1 : Int32) (x2 : Int32) (S : St) : Option (Int32 × St) :=
  if x1 < 0 then (some ((-1), S)) else (if (S.1 19 4) ≤ x1 then (some ((-1), S)) else (if x2 < 0 then (some ((-1), S)) else (if x2 ≤ 1 then (if x2 = 0 then (x_ld (S.1 21) 20 x1 (fun v3 => some (v3, S))) else (x_ld (S.1 22) 20 x1 (fun v1 => x_ld (S.1 17) 8 v1 (fun v2 => some (v2, S))))) else (some ((-1), S)))))
def jSmoke_fog (x1 : Int32) (S : St) : Option (Int32 × St) :=
  if x1 < 0 then (some ((-1), S)) else (if x1 ≤ 5 then (x_lt (S.1 19 5) (fun v1 => x_lt (upI S 19 5 x1) (fun S2 => some (v1, S2)))) else (some ((-1), S)))
def jSmoke_isWord (x0 : Int32) (S : St) : Option (Int32 × St) :=
  if x0 < 0 then (x_nr 0 (some (0, S))) else (if 8 ≤ x0 then (x_nr 0 (some (0, S))) else (x_nr 1 (some (1, S))))
def jSmoke_isRow (x0 : Int32) (x1 : Int32) (x2 : Int32) (S : St) : Option (Int32 × St) :=
  x_bd (jSmoke_isWord x0 S) (fun v2 S1 => if v2 = 0 then (x_nr 0 (some (0, S1))) else (if x1 = (-1) then (if x2 = (-1) then (x_nr 1 (some (1, S1))) else (x_nr 0 (some (0, S1)))) else (x_bd (jSmoke_isWord x1 S1) (fun v4 S3 => if v4 = 0 then (x_nr 0 (some (0, S3))) else (if x2 = (-1) then (x_nr 1 (some (1, S3))) else (x_bd (jSmoke_isWord x2 S3) (fun v6 S5 => if v6 = 0 then (x_nr 0 (some (0, S5))) else (x_nr 1 (some (1, S5))))))))))
def jSpeech_hear_b41 (s0 : Int32) (S : St) : Option (St) :=
  x_lt (upI S 31 4 s0) (fun S4 => some S4)
def jSpeech_hear (x1 : Int32) (x2 : Int32) (x3 : Int32) (S : St) : Option (St) :=
  x_gd 3 0 (x_lt (upI S 32 (Int32.toNatClampNeg 0) x1) (fun S1 => x_gd 3 1 (x_lt (upI S1 32 (Int32.toNatClampNeg 1) x2) (fun S2 => x_gd 3 2 (x_lt (upI S2 32 (Int32.toNatClampNeg 2) x3) (fun S3 => if x2 = (-1) then (jSpeech_hear_b41 1 S3) else (if x3 = (-1) then (jSpeech_hear_b41 2 S3) else (jSpeech_hear_b41 3 S3))))))))
def jSuppers_fill_35_b2 (K2 : Int32 → Int32 → St → Option (St)) (x1 : Int32) (x3 : Int32) (S : St) : Option (St) :=
  if 5 ≤ x3 then (some S) else (x_bd (jSuppers_stock x1 x3 S) (fun v2 S1 => x_gd 5 x3 (x_lt (upI S1 35 (Int32.toNatClampNeg x3) v2) (fun S3 => K2 x1 (x3 + 1) S3))))
def jSuppers_fill_35_h2 : Nat → Int32 → Int32 → St → Option (St)
  | 0, _, _, _ => none
  | n + 1, x1, x3, S => jSuppers_fill_35_b2 (jSuppers_fill_35_h2 n) x1 x3 S
def jSuppers_fill_35 (x1 : Int32) (S : St) : Option (St) :=
  jSuppers_fill_35_h2 FU x1 0 S
def jSpeech_compare_b25 (K25 : Int32 → St → Option (St)) (x2 : Int32) (S : St) : Option (St) :=
  if 3 ≤ x2 then (some S) else (x_ld (S.1 33) 3 x2 (fun v2 => x_gd 3 x2 (x_lt (upI S 34 (Int32.toNatClampNeg x2) v2) (fun S3 => K25 (x2 + 1) S3))))
def jSpeech_compare_h25 : Nat → Int32 → St → Option (St)
  | 0, _, _ => none
  | n + 1, x2, S => jSpeech_compare_b25 (jSpeech_compare_h25 n) x2 S
def jSpeech_compare_b18 (x1 : Int32) (S : St) : Option (St) :=
  x_lt (upI S 31 5 x1) (fun S1 => jSpeech_compare_h25 FU 0 S1)
def jSpeech_compare (x1 : Int32) (S : St) : Option (St) :=
  if (S.1 31 5) = (-9) then (jSpeech_compare_b18 x1 S) else (if x1 < (S.1 31 5) then (jSpeech_compare_b18 x1 S) else (some S))
def jMenu_fits_35_b2 (K2 : Int32 → Int32 → St → Option (Int32 × St)) (x1 : Int32) (x3 : Int32) (S : St) : Option (Int32 × St) :=
  if 5 ≤ x3 then (x_nr 1 (some (1, S))) else (x_bd (jMenu_need x1 x3 S) (fun v2 S1 => x_ld (S1.1 35) 5 x3 (fun v3 => if v2 ≤ v3 then (K2 x1 (x3 + 1) S1) else (x_nr 0 (some (0, S1))))))
def jMenu_fits_35_h2 : Nat → Int32 → Int32 → St → Option (Int32 × St)
  | 0, _, _, _ => none
  | n + 1, x1, x3, S => jMenu_fits_35_b2 (jMenu_fits_35_h2 n) x1 x3 S
def jMenu_fits_35 (x1 : Int32) (S : St) : Option (Int32 × St) :=
  jMenu_fits_35_h2 FU x1 0 S
def jMenu_take_35_b2 (K2 : Int32 → Int32 → St → Option (St)) (x1 : Int32) (x3 : Int32) (S : St) : Option (St) :=
  if 5 ≤ x3 then (some S) else (x_ld (S.1 35) 5 x3 (fun v1 => x_bd (jMenu_need x1 x3 S) (fun v3 S2 => x_gd 5 x3 (x_lt (upI S2 35 (Int32.toNatClampNeg x3) (v1 - v3)) (fun S4 => K2 x1 (x3 + 1) S4)))))
def jMenu_take_35_h2 : Nat → Int32 → Int32 → St → Option (St)
  | 0, _, _, _ => none
  | n + 1, x1, x3, S => jMenu_take_35_b2 (jMenu_take_35_h2 n) x1 x3 S
def jMenu_take_35 (x1 : Int32) (S : St) : Option (St) :=
  jMenu_take_35_h2 FU x1 0 S
def jSpeech_choose_0 (x2 : Int32) (x3 : Int32) (x4 : Int32) (S : St) : Option (St) := none
def jMenu_putBack_b2 (K2 : Int32 → Int32 → St → Option (St)) (x1 : Int32) (x3 : Int32) (S : St) : Option (St) :=
  if 5 ≤ x3 then (some S) else (x_ld (S.1 35) 5 x3 (fun v1 => x_bd (jMenu_need x1 x3 S) (fun v3 S2 => x_gd 5 x3 (x_lt (upI S2 35 (Int32.toNatClampNeg x3) (v1 + v3)) (fun S4 => K2 x1 (x3 + 1) S4)))))
def jMenu_putBack_h2 : Nat → Int32 → Int32 → St → Option (St)
  | 0, _, _, _ => none
  | n + 1, x1, x3, S => jMenu_putBack_b2 (jMenu_putBack_h2 n) x1 x3 S
def jMenu_putBack (x1 : Int32) (S : St) : Option (St) :=
  jMenu_putBack_h2 FU x1 0 S
def jSpeech_choose_1_b13 (x4 : Int32) (S : St) : Option (St) :=
  x_bv (jSpeech_compare x4 S) (fun S1 => some S1)
def jSpeech_choose_1_b43 (K43 : Int32 → Int32 → Int32 → Int32 → St → Option (St)) (x2 : Int32) (x3 : Int32) (x4 : Int32) (x5 : Int32) (S : St) : Option (St) :=
  if (S.1 14 4) ≤ x5 then (some S) else (x_ld (S.1 18) 8 x5 (fun v2 => x_ld (S.1 32) 3 x2 (fun v3 => if v2 = v3 then (x_bd (jMenu_fits_35 x5 S) (fun v5 S4 => if v5 = 0 then (K43 x2 x3 x4 (x5 + 1) S4) else (x_gd 3 x2 (x_lt (upI S4 33 (Int32.toNatClampNeg x2) x5) (fun S6 => x_bv (jMenu_take_35 x5 S6) (fun S7 => x_ld (S7.1 16) 8 x5 (fun v8 => x_bv (jSpeech_choose_0 (x2 + 1) x3 (x4 + v8) S7) (fun S9 => x_bv (jMenu_putBack x5 S9) (fun S10 => K43 x2 x3 x4 (x5 + 1) S10))))))))) else (K43 x2 x3 x4 (x5 + 1) S))))
def jSpeech_choose_1_h43 : Nat → Int32 → Int32 → Int32 → Int32 → St → Option (St)
  | 0, _, _, _, _, _ => none
  | n + 1, x2, x3, x4, x5, S => jSpeech_choose_1_b43 (jSpeech_choose_1_h43 n) x2 x3 x4 x5 S
def jSpeech_choose_1 (x2 : Int32) (x3 : Int32) (x4 : Int32) (S : St) : Option (St) :=
  if (S.1 31 4) ≤ x2 then (jSpeech_choose_1_b13 x4 S) else (if x2 < 3 then (if ((x3 >>> (x2 &&& 31)) &&& 1) = 0 then (x_bv (jSpeech_choose_0 (x2 + 1) x3 x4 S) (fun S11 => some S11)) else (jSpeech_choose_1_h43 FU x2 x3 x4 0 S)) else (jSpeech_choose_1_b13 x4 S))
def jSpeech_choose_2_b13 (x4 : Int32) (S : St) : Option (St) :=
  x_bv (jSpeech_compare x4 S) (fun S1 => some S1)
def jSpeech_choose_2_b43 (K43 : Int32 → Int32 → Int32 → Int32 → St → Option (St)) (x2 : Int32) (x3 : Int32) (x4 : Int32) (x5 : Int32) (S : St) : Option (St) :=
  if (S.1 14 4) ≤ x5 then (some S) else (x_ld (S.1 18) 8 x5 (fun v2 => x_ld (S.1 32) 3 x2 (fun v3 => if v2 = v3 then (x_bd (jMenu_fits_35 x5 S) (fun v5 S4 => if v5 = 0 then (K43 x2 x3 x4 (x5 + 1) S4) else (x_gd 3 x2 (x_lt (upI S4 33 (Int32.toNatClampNeg x2) x5) (fun S6 => x_bv (jMenu_take_35 x5 S6) (fun S7 => x_ld (S7.1 16) 8 x5 (fun v8 => x_bv (jSpeech_choose_1 (x2 + 1) x3 (x4 + v8) S7) (fun S9 => x_bv (jMenu_putBack x5 S9) (fun S10 => K43 x2 x3 x4 (x5 + 1) S10))))))))) else (K43 x2 x3 x4 (x5 + 1) S))))
def jSpeech_choose_2_h43 : Nat → Int32 → Int32 → Int32 → Int32 → St → Option (St)
  | 0, _, _, _, _, _ => none
  | n + 1, x2, x3, x4, x5, S => jSpeech_choose_2_b43 (jSpeech_choose_2_h43 n) x2 x3 x4 x5 S
def jSpeech_choose_2 (x2 : Int32) (x3 : Int32) (x4 : Int32) (S : St) : Option (St) :=
  if (S.1 31 4) ≤ x2 then (jSpeech_choose_2_b13 x4 S) else (if x2 < 3 then (if ((x3 >>> (x2 &&& 31)) &&& 1) = 0 then (x_bv (jSpeech_choose_1 (x2 + 1) x3 x4 S) (fun S11 => some S11)) else (jSpeech_choose_2_h43 FU x2 x3 x4 0 S)) else (jSpeech_choose_2_b13 x4 S))
def jSpeech_choose_3_b13 (x4 : Int32) (S : St) : Option (St) :=
  x_bv (jSpeech_compare x4 S) (fun S1 => some S1)
def jSpeech_choose_3_b43 (K43 : Int32 → Int32 → Int32 → Int32 → St → Option (St)) (x2 : Int32) (x3 : Int32) (x4 : Int32) (x5 : Int32) (S : St) : Option (St) :=
  if (S.1 14 4) ≤ x5 then (some S) else (x_ld (S.1 18) 8 x5 (fun v2 => x_ld (S.1 32) 3 x2 (fun v3 => if v2 = v3 then (x_bd (jMenu_fits_35 x5 S) (fun v5 S4 => if v5 = 0 then (K43 x2 x3 x4 (x5 + 1) S4) else (x_gd 3 x2 (x_lt (upI S4 33 (Int32.toNatClampNeg x2) x5) (fun S6 => x_bv (jMenu_take_35 x5 S6) (fun S7 => x_ld (S7.1 16) 8 x5 (fun v8 => x_bv (jSpeech_choose_2 (x2 + 1) x3 (x4 + v8) S7) (fun S9 => x_bv (jMenu_putBack x5 S9) (fun S10 => K43 x2 x3 x4 (x5 + 1) S10))))))))) else (K43 x2 x3 x4 (x5 + 1) S))))
def jSpeech_choose_3_h43 : Nat → Int32 → Int32 → Int32 → Int32 → St → Option (St)
  | 0, _, _, _, _, _ => none
  | n + 1, x2, x3, x4, x5, S => jSpeech_choose_3_b43 (jSpeech_choose_3_h43 n) x2 x3 x4 x5 S
def jSpeech_choose_3 (x2 : Int32) (x3 : Int32) (x4 : Int32) (S : St) : Option (St) :=
  if (S.1 31 4) ≤ x2 then (jSpeech_choose_3_b13 x4 S) else (if x2 < 3 then (if ((x3 >>> (x2 &&& 31)) &&& 1) = 0 then (x_bv (jSpeech_choose_2 (x2 + 1) x3 x4 S) (fun S11 => some S11)) else (jSpeech_choose_3_h43 FU x2 x3 x4 0 S)) else (jSpeech_choose_3_b13 x4 S))
def jSpeech_choose_4_b13 (x4 : Int32) (S : St) : Option (St) :=
  x_bv (jSpeech_compare x4 S) (fun S1 => some S1)
def jSpeech_choose_4_b43 (K43 : Int32 → Int32 → Int32 → Int32 → St → Option (St)) (x2 : Int32) (x3 : Int32) (x4 : Int32) (x5 : Int32) (S : St) : Option (St) :=
  if (S.1 14 4) ≤ x5 then (some S) else (x_ld (S.1 18) 8 x5 (fun v2 => x_ld (S.1 32) 3 x2 (fun v3 => if v2 = v3 then (x_bd (jMenu_fits_35 x5 S) (fun v5 S4 => if v5 = 0 then (K43 x2 x3 x4 (x5 + 1) S4) else (x_gd 3 x2 (x_lt (upI S4 33 (Int32.toNatClampNeg x2) x5) (fun S6 => x_bv (jMenu_take_35 x5 S6) (fun S7 => x_ld (S7.1 16) 8 x5 (fun v8 => x_bv (jSpeech_choose_3 (x2 + 1) x3 (x4 + v8) S7) (fun S9 => x_bv (jMenu_putBack x5 S9) (fun S10 => K43 x2 x3 x4 (x5 + 1) S10))))))))) else (K43 x2 x3 x4 (x5 + 1) S))))
def jSpeech_choose_4_h43 : Nat → Int32 → Int32 → Int32 → Int32 → St → Option (St)
  | 0, _, _, _, _, _ => none
  | n + 1, x2, x3, x4, x5, S => jSpeech_choose_4_b43 (jSpeech_choose_4_h43 n) x2 x3 x4 x5 S
def jSpeech_choose_4 (x2 : Int32) (x3 : Int32) (x4 : Int32) (S : St) : Option (St) :=
  if (S.1 31 4) ≤ x2 then (jSpeech_choose_4_b13 x4 S) else (if x2 < 3 then (if ((x3 >>> (x2 &&& 31)) &&& 1) = 0 then (x_bv (jSpeech_choose_3 (x2 + 1) x3 x4 S) (fun S11 => some S11)) else (jSpeech_choose_4_h43 FU x2 x3 x4 0 S)) else (jSpeech_choose_4_b13 x4 S))
def jSpeech_choose_5_b13 (x4 : Int32) (S : St) : Option (St) :=
  x_bv (jSpeech_compare x4 S) (fun S1 => some S1)
def jSpeech_choose_5_b43 (K43 : Int32 → Int32 → Int32 → Int32 → St → Option (St)) (x2 : Int32) (x3 : Int32) (x4 : Int32) (x5 : Int32) (S : St) : Option (St) :=
  if (S.1 14 4) ≤ x5 then (some S) else (x_ld (S.1 18) 8 x5 (fun v2 => x_ld (S.1 32) 3 x2 (fun v3 => if v2 = v3 then (x_bd (jMenu_fits_35 x5 S) (fun v5 S4 => if v5 = 0 then (K43 x2 x3 x4 (x5 + 1) S4) else (x_gd 3 x2 (x_lt (upI S4 33 (Int32.toNatClampNeg x2) x5) (fun S6 => x_bv (jMenu_take_35 x5 S6) (fun S7 => x_ld (S7.1 16) 8 x5 (fun v8 => x_bv (jSpeech_choose_4 (x2 + 1) x3 (x4 + v8) S7) (fun S9 => x_bv (jMenu_putBack x5 S9) (fun S10 => K43 x2 x3 x4 (x5 + 1) S10))))))))) else (K43 x2 x3 x4 (x5 + 1) S))))
def jSpeech_choose_5_h43 : Nat → Int32 → Int32 → Int32 → Int32 → St → Option (St)
  | 0, _, _, _, _, _ => none
  | n + 1, x2, x3, x4, x5, S => jSpeech_choose_5_b43 (jSpeech_choose_5_h43 n) x2 x3 x4 x5 S
def jSpeech_choose_5 (x2 : Int32) (x3 : Int32) (x4 : Int32) (S : St) : Option (St) :=
  if (S.1 31 4) ≤ x2 then (jSpeech_choose_5_b13 x4 S) else (if x2 < 3 then (if ((x3 >>> (x2 &&& 31)) &&& 1) = 0 then (x_bv (jSpeech_choose_4 (x2 + 1) x3 x4 S) (fun S11 => some S11)) else (jSpeech_choose_5_h43 FU x2 x3 x4 0 S)) else (jSpeech_choose_5_b13 x4 S))
def jSpeech_fewestUnits (x2 : Int32) (S : St) : Option (Int32 × St) :=
  x_lt (upI S 31 5 (-9)) (fun S1 => x_bv (jSpeech_choose_5 0 x2 0 S1) (fun S2 => some (S2.1 31 5, S2)))
def jSmoke_says (x1 : Int32) (x2 : Int32) (x3 : Int32) (x4 : Int32) (x5 : Int32) (S : St) : Option (Int32 × St) :=
  x_bd (jSuppers_hasHouse x1 S) (fun v2 S1 => if v2 = 0 then (some ((-1), S1)) else (x_bd (jSmoke_isRow x2 x3 x4 S1) (fun v4 S3 => if v4 = 0 then (some ((-1), S3)) else (if x5 < (-1) then (some ((-1), S3)) else (if x5 < 3 then (x_bv (jSpeech_hear x2 x3 x4 S3) (fun S5 => x_bv (jSuppers_fill_35 x1 S5) (fun S6 => x_bd (jSpeech_fewestUnits 7 S6) (fun v8 S7 => if v8 = (-9) then (some ((-9), S7)) else (if 0 ≤ x5 then (if (S7.1 31 4) ≤ x5 then (some ((-5), S7)) else (x_ld (S7.1 34) 3 x5 (fun v9 => some (v9, S7)))) else (some (v8, S7))))))) else (some ((-1), S3)))))))
def jInt_bitCount (x0 : Int32) (S : St) : Option (Int32 × St) :=
  x_lt (x0 - ((x_ush x0 1) &&& 1431655765)) (fun v1 => x_lt ((v1 &&& 858993459) + ((x_ush v1 2) &&& 858993459)) (fun v2 => x_lt ((v2 + (x_ush v2 4)) &&& 252645135) (fun v3 => x_lt (v3 + (x_ush v3 8)) (fun v4 => x_lt (v4 + (x_ush v4 16)) (fun v5 => some (v5 &&& 63, S))))))
def jSpeech_mostPlaces_b30 (K4 : Int32 → Int32 → St → Option (Int32 × St)) (x2 : Int32) (x3 : Int32) (s0 : Int32) (S : St) : Option (Int32 × St) :=
  if s0 = 0 then (K4 x2 (x3 + 1) S) else (x_bd (jSpeech_fewestUnits x3 S) (fun v6 S5 => if v6 = (-9) then (K4 x2 (x3 + 1) S5) else (K4 x3 (x3 + 1) S5)))
def jSpeech_mostPlaces_b4 (K4 : Int32 → Int32 → St → Option (Int32 × St)) (x2 : Int32) (x3 : Int32) (S : St) : Option (Int32 × St) :=
  if (1 <<< ((S.1 31 4) &&& 31)) ≤ x3 then (some (x2, S)) else (x_bd (jInt_bitCount x3 S) (fun v2 S1 => x_bd (jInt_bitCount x2 S1) (fun v4 S3 => if v2 ≤ v4 then (jSpeech_mostPlaces_b30 K4 x2 x3 0 S3) else (jSpeech_mostPlaces_b30 K4 x2 x3 1 S3))))
def jSpeech_mostPlaces_h4 : Nat → Int32 → Int32 → St → Option (Int32 × St)
  | 0, _, _, _ => none
  | n + 1, x2, x3, S => jSpeech_mostPlaces_b4 (jSpeech_mostPlaces_h4 n) x2 x3 S
def jSpeech_mostPlaces (S : St) : Option (Int32 × St) :=
  jSpeech_mostPlaces_h4 FU 0 1 S
def jSmoke_nearest (x1 : Int32) (x2 : Int32) (x3 : Int32) (x4 : Int32) (S : St) : Option (Int32 × St) :=
  x_bd (jSuppers_hasHouse x1 S) (fun v2 S1 => if v2 = 0 then (some ((-1), S1)) else (x_bd (jSmoke_isRow x2 x3 x4 S1) (fun v4 S3 => if v4 = 0 then (some ((-1), S3)) else (x_bv (jSpeech_hear x2 x3 x4 S3) (fun S5 => x_bv (jSuppers_fill_35 x1 S5) (fun S6 => x_bd (jSpeech_mostPlaces S6) (fun v8 S7 => some (v8, S7))))))))
def jSmoke_isSmoke (x0 : Int32) (S : St) : Option (Int32 × St) :=
  if x0 < 0 then (x_nr 0 (some (0, S))) else (if 8 ≤ x0 then (x_nr 0 (some (0, S))) else (x_nr 1 (some (1, S))))
def jSuppers_thousandths_b27 (K5 : Int32 → Int32 → Int32 → Int32 → St → Option (Int32 × St)) (x1 : Int32) (x2 : Int32) (x3 : Int32) (x4 : Int32) (s0 : Int32) (S : St) : Option (Int32 × St) :=
  if s0 = 0 then (x_lt (x3 * (10 - (S.1 19 5))) (fun v1 => K5 x1 x2 v1 (x4 + 1) S)) else (x_lt (x3 * (S.1 19 5)) (fun v2 => K5 x1 x2 v2 (x4 + 1) S))
def jSuppers_thousandths_b5 (K5 : Int32 → Int32 → Int32 → Int32 → St → Option (Int32 × St)) (x1 : Int32) (x2 : Int32) (x3 : Int32) (x4 : Int32) (S : St) : Option (Int32 × St) :=
  if 3 ≤ x4 then (some (x3, S)) else (if (((x1 ^^^ x2) >>> (x4 &&& 31)) &&& 1) = 0 then (jSuppers_thousandths_b27 K5 x1 x2 x3 x4 0 S) else (jSuppers_thousandths_b27 K5 x1 x2 x3 x4 1 S))
def jSuppers_thousandths_h5 : Nat → Int32 → Int32 → Int32 → Int32 → St → Option (Int32 × St)
  | 0, _, _, _, _, _ => none
  | n + 1, x1, x2, x3, x4, S => jSuppers_thousandths_b5 (jSuppers_thousandths_h5 n) x1 x2 x3 x4 S
def jSuppers_thousandths (x1 : Int32) (x2 : Int32) (S : St) : Option (Int32 × St) :=
  jSuppers_thousandths_h5 FU x1 x2 1 0 S
def jSmoke_reads (x1 : Int32) (x2 : Int32) (S : St) : Option (Int32 × St) :=
  x_bd (jSmoke_isSmoke x1 S) (fun v2 S1 => if v2 = 0 then (some ((-1), S1)) else (x_bd (jSmoke_isSmoke x2 S1) (fun v4 S3 => if v4 = 0 then (some ((-1), S3)) else (x_bd (jSuppers_thousandths x1 x2 S3) (fun v6 S5 => some (v6, S5))))))
def jMenu_meaning_b2 (K2 : Int32 → Int32 → St → Option (Int32 × St)) (x1 : Int32) (x2 : Int32) (S : St) : Option (Int32 × St) :=
  if (S.1 14 4) ≤ x2 then (some ((-9), S)) else (x_ld (S.1 17) 8 x2 (fun v1 => if v1 = x1 then (x_ld (S.1 18) 8 x2 (fun v2 => some (v2, S))) else (K2 x1 (x2 + 1) S)))
def jMenu_meaning_h2 : Nat → Int32 → Int32 → St → Option (Int32 × St)
  | 0, _, _, _ => none
  | n + 1, x1, x2, S => jMenu_meaning_b2 (jMenu_meaning_h2 n) x1 x2 S
def jMenu_meaning (x1 : Int32) (S : St) : Option (Int32 × St) :=
  jMenu_meaning_h2 FU x1 0 S
def jSmoke_means (x1 : Int32) (S : St) : Option (Int32 × St) :=
  x_bd (jSmoke_isSmoke x1 S) (fun v2 S1 => if v2 = 0 then (some ((-1), S1)) else (x_bd (jMenu_meaning x1 S1) (fun v4 S3 => some (v4, S3))))
def jMenu_leastSaying_b2 (K2 : Int32 → Int32 → St → Option (Int32 × St)) (x1 : Int32) (x2 : Int32) (S : St) : Option (Int32 × St) :=
  if (S.1 14 4) ≤ x2 then (some ((-1), S)) else (x_ld (S.1 18) 8 x2 (fun v1 => if v1 = x1 then (some (x2, S)) else (K2 x1 (x2 + 1) S)))
def jMenu_leastSaying_h2 : Nat → Int32 → Int32 → St → Option (Int32 × St)
  | 0, _, _, _ => none
  | n + 1, x1, x2, S => jMenu_leastSaying_b2 (jMenu_leastSaying_h2 n) x1 x2 S
def jMenu_leastSaying (x1 : Int32) (S : St) : Option (Int32 × St) :=
  jMenu_leastSaying_h2 FU x1 0 S
def jChain_begin_b23 (K2 : Int32 → Int32 → St → Option (St)) (x1 : Int32) (x2 : Int32) (t0 : Int64) (s1 : Int32) (S : St) : Option (St) :=
  x_gd 8 s1 (x_lt (upL S 37 (Int32.toNatClampNeg s1) t0) (fun S1 => K2 x1 (x2 + 1) S1))
def jChain_begin_b2 (K2 : Int32 → Int32 → St → Option (St)) (x1 : Int32) (x2 : Int32) (S : St) : Option (St) :=
  if 8 ≤ x2 then (some S) else (if x2 = x1 then (jChain_begin_b23 K2 x1 x2 1 x2 S) else (jChain_begin_b23 K2 x1 x2 0 x2 S))
def jChain_begin_h2 : Nat → Int32 → Int32 → St → Option (St)
  | 0, _, _, _ => none
  | n + 1, x1, x2, S => jChain_begin_b2 (jChain_begin_h2 n) x1 x2 S
def jChain_begin (x1 : Int32) (S : St) : Option (St) :=
  jChain_begin_h2 FU x1 0 S
def jSmoke_leastTerms_b44 (y0 : Int64) (y2 : Int64) (x4 : Int32) (y5 : Int64) (S : St) : Option (Int64 × St) :=
  if (lg_cmp y5 0) = 0 then (some ((-1), S)) else (if x4 = 0 then (if y5 = 0 then none else (some (y0 / y5, S))) else (if y5 = 0 then none else (some (y2 / y5, S))))
def jSmoke_leastTerms_b9 (K9 : Int64 → Int64 → Int32 → Int64 → Int64 → Int32 → St → Option (Int64 × St)) (y0 : Int64) (y2 : Int64) (x4 : Int32) (y5 : Int64) (y7 : Int64) (x9 : Int32) (S : St) : Option (Int64 × St) :=
  if 100 ≤ x9 then (jSmoke_leastTerms_b44 y0 y2 x4 y5 S) else (if (lg_cmp y7 0) = 0 then (jSmoke_leastTerms_b44 y0 y2 x4 y5 S) else (if y7 = 0 then none else (x_lt (y5 - y5 / y7 * y7) (fun v1 => K9 y0 y2 x4 y7 v1 (x9 + 1) S))))
def jSmoke_leastTerms_h9 : Nat → Int64 → Int64 → Int32 → Int64 → Int64 → Int32 → St → Option (Int64 × St)
  | 0, _, _, _, _, _, _, _ => none
  | n + 1, y0, y2, x4, y5, y7, x9, S => jSmoke_leastTerms_b9 (jSmoke_leastTerms_h9 n) y0 y2 x4 y5 y7 x9 S
def jSmoke_leastTerms (y0 : Int64) (y2 : Int64) (x4 : Int32) (S : St) : Option (Int64 × St) :=
  jSmoke_leastTerms_h9 FU y0 y2 x4 y0 y2 0 S
def jChain_read_b116 (K116 : Int32 → St → Option (St)) (x3 : Int32) (S : St) : Option (St) :=
  if 8 ≤ x3 then (some S) else (x_ld (S.2 38) 8 x3 (fun v1 => x_gd 8 x3 (x_lt (upL S 37 (Int32.toNatClampNeg x3) v1) (fun S2 => K116 (x3 + 1) S2))))
def jChain_read_h116 : Nat → Int32 → St → Option (St)
  | 0, _, _ => none
  | n + 1, x3, S => jChain_read_b116 (jChain_read_h116 n) x3 S
def jChain_read_b50 (K23 : Int32 → St → Option (St)) (K50 : Int32 → Int32 → Int32 → St → Option (St)) (x3 : Int32) (x4 : Int32) (x5 : Int32) (S : St) : Option (St) :=
  if 8 ≤ x5 then (K23 (x3 + 1) S) else (x_bd (jMenu_leastSaying x5 S) (fun v8 S7 => if v8 = (-1) then (K50 x3 x4 (x5 + 1) S7) else (x_ld (S7.2 38) 8 x4 (fun v9 => x_ld (S7.2 37) 8 x5 (fun v10 => x_ld (S7.1 17) 8 v8 (fun v11 => x_bd (jSuppers_thousandths v11 x3 S7) (fun v13 S12 => x_gd 8 x4 (x_lt (upL S12 38 (Int32.toNatClampNeg x4) (v9 + (v10 * (Int32.toInt64 v13)))) (fun S14 => K50 x3 x4 (x5 + 1) S14)))))))))
def jChain_read_h50 (K23 : Int32 → St → Option (St)) : Nat → Int32 → Int32 → Int32 → St → Option (St)
  | 0, _, _, _, _ => none
  | n + 1, x3, x4, x5, S => jChain_read_b50 K23 (jChain_read_h50 K23 n) x3 x4 x5 S
def jChain_read_b23 (K23 : Int32 → St → Option (St)) (x3 : Int32) (S : St) : Option (St) :=
  if 8 ≤ x3 then (jChain_read_h116 FU 0 S) else (x_bd (jMenu_meaning x3 S) (fun v4 S3 => x_bd (jSmoke_isWord v4 S3) (fun v6 S5 => if v6 = 0 then (K23 (x3 + 1) S5) else (jChain_read_h50 K23 FU x3 v4 0 S5))))
def jChain_read_h23 : Nat → Int32 → St → Option (St)
  | 0, _, _ => none
  | n + 1, x3, S => jChain_read_b23 (jChain_read_h23 n) x3 S
def jChain_read_b2 (K2 : Int32 → St → Option (St)) (x3 : Int32) (S : St) : Option (St) :=
  if 8 ≤ x3 then (jChain_read_h23 FU 0 S) else (x_gd 8 x3 (x_lt (upL S 38 (Int32.toNatClampNeg x3) 0) (fun S15 => K2 (x3 + 1) S15)))
def jChain_read_h2 : Nat → Int32 → St → Option (St)
  | 0, _, _ => none
  | n + 1, x3, S => jChain_read_b2 (jChain_read_h2 n) x3 S
def jChain_read (S : St) : Option (St) :=
  jChain_read_h2 FU 0 S
def jSmoke_chain_b63 (K63 : Int32 → Int32 → Int32 → Int64 → Int32 → St → Option (Int64 × St)) (x1 : Int32) (x2 : Int32) (x3 : Int32) (y4 : Int64) (x6 : Int32) (S : St) : Option (Int64 × St) :=
  if x2 ≤ x6 then (x_ld (S.2 37) 8 x1 (fun v6 => x_bd (jSmoke_leastTerms v6 y4 x3 S) (fun v8 S7 => some (v8, S7)))) else (x_bv (jChain_read S) (fun S9 => x_lt (y4 * 1000) (fun v10 => K63 x1 x2 x3 v10 (x6 + 1) S9)))
def jSmoke_chain_h63 : Nat → Int32 → Int32 → Int32 → Int64 → Int32 → St → Option (Int64 × St)
  | 0, _, _, _, _, _, _ => none
  | n + 1, x1, x2, x3, y4, x6, S => jSmoke_chain_b63 (jSmoke_chain_h63 n) x1 x2 x3 y4 x6 S
def jSmoke_chain (x1 : Int32) (x2 : Int32) (x3 : Int32) (S : St) : Option (Int64 × St) :=
  x_bd (jSmoke_isWord x1 S) (fun v2 S1 => if v2 = 0 then (some ((-1), S1)) else (if x2 < 1 then (some ((-1), S1)) else (if 4 < x2 then (some ((-1), S1)) else (if x3 < 0 then (some ((-1), S1)) else (if x3 ≤ 1 then (x_bd (jMenu_leastSaying x1 S1) (fun v4 S3 => if v4 = (-1) then (x_bd (jSmoke_leastTerms 0 1 x3 S3) (fun v12 S11 => some (v12, S11))) else (x_bv (jChain_begin x1 S3) (fun S5 => jSmoke_chain_h63 FU x1 x2 x3 1 0 S5)))) else (some ((-1), S1)))))))
def jSmoke_weightOf_b17 (K17 : Int32 → Int32 → Int32 → St → Option (Int32 × St)) (x2 : Int32) (x3 : Int32) (x4 : Int32) (S : St) : Option (Int32 × St) :=
  if (S.1 14 4) ≤ x4 then (some (x3, S)) else (x_bd (jMenu_fits_39 x4 S) (fun v3 S2 => if v3 = 0 then (K17 x2 x3 (x4 + 1) S2) else (x_ld (S2.1 17) 8 x4 (fun v4 => x_bd (jSuppers_thousandths v4 x2 S2) (fun v6 S5 => x_lt (x3 + v6) (fun v7 => K17 x2 v7 (x4 + 1) S5))))))
def jSmoke_weightOf_h17 : Nat → Int32 → Int32 → Int32 → St → Option (Int32 × St)
  | 0, _, _, _, _ => none
  | n + 1, x2, x3, x4, S => jSmoke_weightOf_b17 (jSmoke_weightOf_h17 n) x2 x3 x4 S
def jSmoke_weightOf (x1 : Int32) (x2 : Int32) (S : St) : Option (Int32 × St) :=
  x_bv (jSuppers_fill_39 x1 S) (fun S1 => jSmoke_weightOf_h17 FU x2 0 0 S1)
def jSmoke_who_b35 (K35 : Int32 → Int32 → Int32 → Int32 → Int32 → St → Option (Int32 × St)) (x1 : Int32) (x2 : Int32) (x3 : Int32) (x4 : Int32) (x5 : Int32) (S : St) : Option (Int32 × St) :=
  if (S.1 19 3) ≤ x5 then (if x4 = 0 then (some ((-2), S)) else (x_bd (jSmoke_weightOf x2 x1 S) (fun v6 S5 => x_bd (jSmoke_leastTerms (Int32.toInt64 v6) (Int32.toInt64 x4) x3 S5) (fun v8 S7 => some (Int64.toInt32 v8, S7))))) else (x_bd (jSmoke_weightOf x5 x1 S) (fun v10 S9 => x_lt (x4 + v10) (fun v11 => K35 x1 x2 x3 v11 (x5 + 1) S9)))
def jSmoke_who_h35 : Nat → Int32 → Int32 → Int32 → Int32 → Int32 → St → Option (Int32 × St)
  | 0, _, _, _, _, _, _ => none
  | n + 1, x1, x2, x3, x4, x5, S => jSmoke_who_b35 (jSmoke_who_h35 n) x1 x2 x3 x4 x5 S
def jSmoke_who (x1 : Int32) (x2 : Int32) (x3 : Int32) (S : St) : Option (Int32 × St) :=
  x_bd (jSmoke_isSmoke x1 S) (fun v2 S1 => if v2 = 0 then (some ((-1), S1)) else (x_bd (jSuppers_hasHouse x2 S1) (fun v4 S3 => if v4 = 0 then (some ((-1), S3)) else (if x3 < 0 then (some ((-1), S3)) else (if x3 ≤ 1 then (jSmoke_who_h35 FU x1 x2 x3 0 0 S3) else (some ((-1), S3)))))))
def jMenu_leanest_b4 (K4 : Int32 → Int32 → St → Option (Int32 × St)) (x2 : Int32) (x3 : Int32) (S : St) : Option (Int32 × St) :=
  if (S.1 14 4) ≤ x3 then (some (x2, S)) else (x_bd (jMenu_fits_39 x3 S) (fun v2 S1 => if v2 = 0 then (K4 x2 (x3 + 1) S1) else (if x2 = (-1) then (K4 x3 (x3 + 1) S1) else (x_ld (S1.1 16) 8 x3 (fun v3 => x_ld (S1.1 16) 8 x2 (fun v4 => if v4 ≤ v3 then (K4 x2 (x3 + 1) S1) else (K4 x3 (x3 + 1) S1)))))))
def jMenu_leanest_h4 : Nat → Int32 → Int32 → St → Option (Int32 × St)
  | 0, _, _, _ => none
  | n + 1, x2, x3, S => jMenu_leanest_b4 (jMenu_leanest_h4 n) x2 x3 S
def jMenu_leanest (S : St) : Option (Int32 × St) :=
  jMenu_leanest_h4 FU (-1) 0 S
def jMenu_take_39_b2 (K2 : Int32 → Int32 → St → Option (St)) (x1 : Int32) (x3 : Int32) (S : St) : Option (St) :=
  if 5 ≤ x3 then (some S) else (x_ld (S.1 39) 5 x3 (fun v1 => x_bd (jMenu_need x1 x3 S) (fun v3 S2 => x_gd 5 x3 (x_lt (upI S2 39 (Int32.toNatClampNeg x3) (v1 - v3)) (fun S4 => K2 x1 (x3 + 1) S4)))))
def jMenu_take_39_h2 : Nat → Int32 → Int32 → St → Option (St)
  | 0, _, _, _ => none
  | n + 1, x1, x3, S => jMenu_take_39_b2 (jMenu_take_39_h2 n) x1 x3 S
def jMenu_take_39 (x1 : Int32) (S : St) : Option (St) :=
  jMenu_take_39_h2 FU x1 0 S
def jSmoke_days_b27 (K27 : Int32 → St → Option (Int32 × St)) (x2 : Int32) (S : St) : Option (Int32 × St) :=
  if 30 ≤ x2 then (some (30, S)) else (x_bd (jMenu_leanest S) (fun v5 S4 => if v5 = (-1) then (some (x2, S4)) else (x_bv (jMenu_take_39 v5 S4) (fun S6 => K27 (x2 + 1) S6))))
def jSmoke_days_h27 : Nat → Int32 → St → Option (Int32 × St)
  | 0, _, _ => none
  | n + 1, x2, S => jSmoke_days_b27 (jSmoke_days_h27 n) x2 S
def jSmoke_days (x1 : Int32) (S : St) : Option (Int32 × St) :=
  x_bd (jSuppers_hasHouse x1 S) (fun v2 S1 => if v2 = 0 then (some ((-1), S1)) else (x_bv (jSuppers_fill_39 x1 S1) (fun S3 => jSmoke_days_h27 FU 0 S3)))
def jMenu_holds (x0 : Int32) (x1 : Int32) (S : St) : Option (Int32 × St) :=
  if ((x0 >>> (x1 &&& 31)) &&& 1) = 0 then (x_nr 0 (some (0, S))) else (x_nr 1 (some (1, S)))
def jMenu_standsOff_b3 (K3 : Int32 → Int32 → Int32 → Int32 → St → Option (Int32 × St)) (x1 : Int32) (x2 : Int32) (x3 : Int32) (x4 : Int32) (S : St) : Option (Int32 × St) :=
  if x2 ≤ x4 then (x_nr 1 (some (1, S))) else (x_bd (jMenu_holds x1 x4 S) (fun v2 S1 => if v2 = 0 then (K3 x1 x2 x3 (x4 + 1) S1) else (x_ld (S1.1 17) 8 x4 (fun v3 => x_ld (S1.1 17) 8 x2 (fun v4 => x_bd (jInt_bitCount (v3 ^^^ v4) S1) (fun v6 S5 => if x3 ≤ v6 then (K3 x1 x2 x3 (x4 + 1) S5) else (x_nr 0 (some (0, S5)))))))))
def jMenu_standsOff_h3 : Nat → Int32 → Int32 → Int32 → Int32 → St → Option (Int32 × St)
  | 0, _, _, _, _, _ => none
  | n + 1, x1, x2, x3, x4, S => jMenu_standsOff_b3 (jMenu_standsOff_h3 n) x1 x2 x3 x4 S
def jMenu_standsOff (x1 : Int32) (x2 : Int32) (x3 : Int32) (S : St) : Option (Int32 × St) :=
  jMenu_standsOff_h3 FU x1 x2 x3 0 S
def jMenu_tellsApart_b6 (K6 : Int32 → Int32 → Int32 → Int32 → St → Option (Int32 × St)) (x1 : Int32) (x3 : Int32) (x4 : Int32) (x5 : Int32) (S : St) : Option (Int32 × St) :=
  if (S.1 14 4) ≤ x5 then (x_nr 1 (some (1, S))) else (x_bd (jMenu_holds x1 x5 S) (fun v2 S1 => if v2 = 0 then (K6 x1 x3 x4 (x5 + 1) S1) else (x_ld (S1.1 18) 8 x5 (fun v3 => x_bd (jMenu_holds x4 v3 S1) (fun v5 S4 => if v5 = 0 then (x_nr 0 (some (0, S4))) else (x_bd (jMenu_standsOff x1 x5 x3 S4) (fun v7 S6 => if v7 = 0 then (x_nr 0 (some (0, S6))) else (x_ld (S6.1 18) 8 x5 (fun v8 => x_lt (x4 &&& ((1 <<< (v8 &&& 31)) ^^^ (-1))) (fun v9 => K6 x1 x3 v9 (x5 + 1) S6))))))))))
def jMenu_tellsApart_h6 : Nat → Int32 → Int32 → Int32 → Int32 → St → Option (Int32 × St)
  | 0, _, _, _, _, _ => none
  | n + 1, x1, x3, x4, x5, S => jMenu_tellsApart_b6 (jMenu_tellsApart_h6 n) x1 x3 x4 x5 S
def jMenu_tellsApart (x1 : Int32) (x2 : Int32) (x3 : Int32) (S : St) : Option (Int32 × St) :=
  jMenu_tellsApart_h6 FU x1 x3 x2 0 S
def jSmoke_code_b103 (K44 : Int32 → Int32 → Int32 → Int32 → Int32 → Int32 → St → Option (Int32 × St)) (x1 : Int32) (x2 : Int32) (x3 : Int32) (x4 : Int32) (x5 : Int32) (x6 : Int32) (x7 : Int32) (S : St) : Option (Int32 × St) :=
  x_lt (if x5 < x7 then x7 else x5) (fun v7 => K44 x1 x2 x3 x4 v7 (x6 + 1) S)
def jSmoke_code_b44 (K44 : Int32 → Int32 → Int32 → Int32 → Int32 → Int32 → St → Option (Int32 × St)) (x1 : Int32) (x2 : Int32) (x3 : Int32) (x4 : Int32) (x5 : Int32) (x6 : Int32) (S : St) : Option (Int32 × St) :=
  if (1 <<< ((S.1 14 4) &&& 31)) ≤ x6 then (if x3 = 0 then (some ((-9), S)) else (some (x5, S))) else (x_bd (jInt_bitCount x6 S) (fun v4 S3 => if x4 < v4 then (K44 x1 x2 x3 x4 x5 (x6 + 1) S3) else (x_bd (jMenu_tellsApart x6 x1 x2 S3) (fun v6 S5 => if v6 = 0 then (K44 x1 x2 x3 x4 x5 (x6 + 1) S5) else (if x3 = 0 then (if v4 = x4 then (some (x6, S5)) else (jSmoke_code_b103 K44 x1 x2 x3 x4 x5 x6 v4 S5)) else (jSmoke_code_b103 K44 x1 x2 x3 x4 x5 x6 v4 S5))))))
def jSmoke_code_h44 : Nat → Int32 → Int32 → Int32 → Int32 → Int32 → Int32 → St → Option (Int32 × St)
  | 0, _, _, _, _, _, _, _ => none
  | n + 1, x1, x2, x3, x4, x5, x6, S => jSmoke_code_b44 (jSmoke_code_h44 n) x1 x2 x3 x4 x5 x6 S
def jSmoke_code (x1 : Int32) (x2 : Int32) (x3 : Int32) (S : St) : Option (Int32 × St) :=
  if x1 < 0 then (some ((-1), S)) else (if 256 ≤ x1 then (some ((-1), S)) else (if x2 < 1 then (some ((-1), S)) else (if 3 < x2 then (some ((-1), S)) else (if x3 < 0 then (some ((-1), S)) else (if x3 ≤ 1 then (x_bd (jInt_bitCount x1 S) (fun v2 S1 => jSmoke_code_h44 FU x1 x2 x3 v2 0 0 S1)) else (some ((-1), S)))))))
def jMenu_smokeOfAll_b4 (K4 : Int32 → Int32 → Int32 → St → Option (Int32 × St)) (x1 : Int32) (x2 : Int32) (x3 : Int32) (S : St) : Option (Int32 × St) :=
  if (S.1 14 4) ≤ x3 then (some (x2, S)) else (x_bd (jMenu_holds x1 x3 S) (fun v2 S1 => if v2 = 0 then (K4 x1 x2 (x3 + 1) S1) else (x_ld (S1.1 17) 8 x3 (fun v3 => x_lt (x2 ||| v3) (fun v4 => K4 x1 v4 (x3 + 1) S1)))))
def jMenu_smokeOfAll_h4 : Nat → Int32 → Int32 → Int32 → St → Option (Int32 × St)
  | 0, _, _, _, _ => none
  | n + 1, x1, x2, x3, S => jMenu_smokeOfAll_b4 (jMenu_smokeOfAll_h4 n) x1 x2 x3 S
def jMenu_smokeOfAll (x1 : Int32) (S : St) : Option (Int32 × St) :=
  jMenu_smokeOfAll_h4 FU x1 0 0 S
def jMenu_anySays_b2 (K2 : Int32 → Int32 → Int32 → St → Option (Int32 × St)) (x1 : Int32) (x2 : Int32) (x3 : Int32) (S : St) : Option (Int32 × St) :=
  if (S.1 14 4) ≤ x3 then (x_nr 0 (some (0, S))) else (x_bd (jMenu_holds x1 x3 S) (fun v2 S1 => if v2 = 0 then (K2 x1 x2 (x3 + 1) S1) else (x_ld (S1.1 18) 8 x3 (fun v3 => if v3 = x2 then (x_nr 1 (some (1, S1))) else (K2 x1 x2 (x3 + 1) S1)))))
def jMenu_anySays_h2 : Nat → Int32 → Int32 → Int32 → St → Option (Int32 × St)
  | 0, _, _, _, _ => none
  | n + 1, x1, x2, x3, S => jMenu_anySays_b2 (jMenu_anySays_h2 n) x1 x2 x3 S
def jMenu_anySays (x1 : Int32) (x2 : Int32) (S : St) : Option (Int32 × St) :=
  jMenu_anySays_h2 FU x1 x2 0 S
def jSmoke_feast (x1 : Int32) (x2 : Int32) (S : St) : Option (Int32 × St) :=
  x_lt (x1 &&& ((1 <<< ((S.1 14 4) &&& 31)) - 1)) (fun v1 => if v1 = 0 then (some ((-1), S)) else (if x2 < 0 then (some ((-1), S)) else (if x2 ≤ 2 then (x_bd (jMenu_smokeOfAll v1 S) (fun v3 S2 => if x2 = 0 then (some (v3, S2)) else (x_bd (jMenu_meaning v3 S2) (fun v5 S4 => if x2 = 1 then (some (v5, S4)) else (if v5 = (-9) then (some (v5, S4)) else (x_bd (jMenu_anySays v1 v5 S4) (fun v7 S6 => if v7 = 0 then (some (1, S6)) else (some (0, S6))))))))) else (some ((-1), S)))))
def jSmoke_silent_b39 (K39 : Int32 → Int32 → St → Option (Int32 × St)) (x2 : Int32) (x3 : Int32) (S : St) : Option (Int32 × St) :=
  if (S.1 19 4) ≤ x3 then (some (x2, S)) else (x_ld (S.1 21) 20 x3 (fun v3 => x_lt (x2 &&& ((1 <<< (v3 &&& 31)) ^^^ (-1))) (fun v4 => K39 v4 (x3 + 1) S)))
def jSmoke_silent_h39 : Nat → Int32 → Int32 → St → Option (Int32 × St)
  | 0, _, _, _ => none
  | n + 1, x2, x3, S => jSmoke_silent_b39 (jSmoke_silent_h39 n) x2 x3 S
def jSmoke_silent (x1 : Int32) (S : St) : Option (Int32 × St) :=
  if x1 < 1 then (some ((-1), S)) else (if x1 ≤ 20 then (x_lt ((1 <<< ((S.1 19 3) &&& 31)) - 1) (fun v1 => x_lt (if 0 < ((S.1 19 4) - x1) then ((S.1 19 4) - x1) else 0) (fun v2 => jSmoke_silent_h39 FU v1 v2 S))) else (some ((-1), S)))
def jSuppers_draw (S : St) : Option (Int32 × St) :=
  x_lt (upI S 19 6 (((S.1 19 6) * 1103515245) + 12345)) (fun S1 => if (10 : Int32) = 0 then none else (some ((x_ush (S1.1 19 6) 16) - (x_ush (S1.1 19 6) 16) / 10 * 10, S1)))
def jSmoke_drawn_b13 (K13 : Int32 → Int32 → St → Option (Int32 × St)) (x2 : Int32) (x3 : Int32) (S : St) : Option (Int32 × St) :=
  if 3 ≤ x3 then (some (x2, S)) else (x_bd (jSuppers_draw S) (fun v4 S3 => if (S3.1 19 5) ≤ v4 then (K13 x2 (x3 + 1) S3) else (x_lt (x2 ^^^ (1 <<< (x3 &&& 31))) (fun v5 => K13 v5 (x3 + 1) S3))))
def jSmoke_drawn_h13 : Nat → Int32 → Int32 → St → Option (Int32 × St)
  | 0, _, _, _ => none
  | n + 1, x2, x3, S => jSmoke_drawn_b13 (jSmoke_drawn_h13 n) x2 x3 S
def jSmoke_drawn (x1 : Int32) (S : St) : Option (Int32 × St) :=
  x_bd (jSmoke_isSmoke x1 S) (fun v2 S1 => if v2 = 0 then (some ((-1), S1)) else (jSmoke_drawn_h13 FU x1 0 S1))
def jSmoke_lot (x1 : Int32) (S : St) : Option (Int32 × St) :=
  x_lt (S.1 19 6) (fun v1 => x_lt (upI S 19 6 x1) (fun S2 => some (v1, S2)))
def jSmoke_markOfDish (x1 : Int32) (S : St) : Option (Int32 × St) :=
  x_lt (upL S 0 9 ((S.2 0 9) + 1)) (fun S1 => x_ld (S1.1 16) 8 x1 (fun v2 => some (v2, S1)))
def jSmoke_markOfStew (x1 : Int32) (S : St) : Option (Int32 × St) :=
  x_lt (upL S 0 9 ((S.2 0 9) + 10)) (fun S1 => x_bd (jSmoke_markOfDish x1 S1) (fun v3 S2 => some (v3 * 2, S2)))
def jSmoke_markOfRoast (x1 : Int32) (S : St) : Option (Int32 × St) :=
  x_lt (upL S 0 9 ((S.2 0 9) + 100)) (fun S1 => x_bd (jSmoke_markOfDish x1 S1) (fun v3 S2 => x_ld (S2.1 17) 8 x1 (fun v4 => some (v3 + v4, S2))))
def jSmoke_markOfBrides (x1 : Int32) (S : St) : Option (Int32 × St) :=
  x_lt (upL S 0 9 ((S.2 0 9) + 1000)) (fun S1 => x_bd (jSmoke_markOfStew x1 S1) (fun v3 S2 => some (v3 + x1, S2)))
def jSmoke_markOfPoor (x1 : Int32) (S : St) : Option (Int32 × St) :=
  x_lt (upL S 0 9 ((S.2 0 9) + 10000)) (fun S1 => x_bd (jSmoke_markOfRoast x1 S1) (fun v3 S2 => x_ld (S2.1 18) 8 x1 (fun v4 => some (v3 - v4, S2))))
def jSmoke_markOfBurnt (x1 : Int32) (S : St) : Option (Int32 × St) :=
  x_lt (upL S 0 9 ((S.2 0 9) + 100000)) (fun S1 => x_bd (jSmoke_markOfDish x1 S1) (fun v3 S2 => some (v3 + (S2.1 19 4), S2)))
def jSmoke_mark (x1 : Int32) (x2 : Int32) (S : St) : Option (Int32 × St) :=
  x_bd (jMenu_lists x2 S) (fun v2 S1 => if v2 = 0 then (some ((-1000000), S1)) else (if x1 = 0 then (x_bd (jSmoke_markOfDish x2 S1) (fun v4 S3 => some (v4, S3))) else (if x1 = 1 then (x_bd (jSmoke_markOfStew x2 S1) (fun v6 S5 => some (v6, S5))) else (if x1 = 2 then (x_bd (jSmoke_markOfRoast x2 S1) (fun v8 S7 => some (v8, S7))) else (if x1 = 3 then (x_bd (jSmoke_markOfBrides x2 S1) (fun v10 S9 => some (v10, S9))) else (if x1 = 4 then (x_bd (jSmoke_markOfPoor x2 S1) (fun v12 S11 => some (v12, S11))) else (if x1 = 5 then (x_bd (jSmoke_markOfBurnt x2 S1) (fun v14 S13 => some (v14, S13))) else (some ((-1000000), S1)))))))))
def jSmoke_imageOf (x1 : Int32) (S : St) : Option (Nat × St) :=
  if x1 = 0 then (some (23, S)) else (some (27, S))
def jSuppers_become_23_19_b60 (K60 : Int32 → St → Option (St)) (x2 : Int32) (S : St) : Option (St) :=
  if 20 ≤ x2 then (some S) else (x_ld (S.1 21) 20 x2 (fun v5 => x_gd 20 x2 (x_lt (upI S 25 (Int32.toNatClampNeg x2) v5) (fun S6 => x_ld (S6.1 22) 20 x2 (fun v7 => x_gd 20 x2 (x_lt (upI S6 26 (Int32.toNatClampNeg x2) v7) (fun S8 => K60 (x2 + 1) S8)))))))
def jSuppers_become_23_19_h60 : Nat → Int32 → St → Option (St)
  | 0, _, _ => none
  | n + 1, x2, S => jSuppers_become_23_19_b60 (jSuppers_become_23_19_h60 n) x2 S
def jSuppers_become_23_19_b34 (K34 : Int32 → St → Option (St)) (x2 : Int32) (S : St) : Option (St) :=
  if 30 ≤ x2 then (jSuppers_become_23_19_h60 FU 0 S) else (x_ld (S.1 20) 30 x2 (fun v9 => x_gd 30 x2 (x_lt (upI S 24 (Int32.toNatClampNeg x2) v9) (fun S10 => K34 (x2 + 1) S10))))
def jSuppers_become_23_19_h34 : Nat → Int32 → St → Option (St)
  | 0, _, _ => none
  | n + 1, x2, S => jSuppers_become_23_19_b34 (jSuppers_become_23_19_h34 n) x2 S
def jSuppers_become_23_19 (S : St) : Option (St) :=
  x_lt (upI S 23 3 (S.1 19 3)) (fun S1 => x_lt (upI S1 23 4 (S1.1 19 4)) (fun S2 => x_lt (upI S2 23 5 (S2.1 19 5)) (fun S3 => x_lt (upI S3 23 6 (S3.1 19 6)) (fun S4 => jSuppers_become_23_19_h34 FU 0 S4))))
def jSuppers_become_27_19_b60 (K60 : Int32 → St → Option (St)) (x2 : Int32) (S : St) : Option (St) :=
  if 20 ≤ x2 then (some S) else (x_ld (S.1 21) 20 x2 (fun v5 => x_gd 20 x2 (x_lt (upI S 29 (Int32.toNatClampNeg x2) v5) (fun S6 => x_ld (S6.1 22) 20 x2 (fun v7 => x_gd 20 x2 (x_lt (upI S6 30 (Int32.toNatClampNeg x2) v7) (fun S8 => K60 (x2 + 1) S8)))))))
def jSuppers_become_27_19_h60 : Nat → Int32 → St → Option (St)
  | 0, _, _ => none
  | n + 1, x2, S => jSuppers_become_27_19_b60 (jSuppers_become_27_19_h60 n) x2 S
def jSuppers_become_27_19_b34 (K34 : Int32 → St → Option (St)) (x2 : Int32) (S : St) : Option (St) :=
  if 30 ≤ x2 then (jSuppers_become_27_19_h60 FU 0 S) else (x_ld (S.1 20) 30 x2 (fun v9 => x_gd 30 x2 (x_lt (upI S 28 (Int32.toNatClampNeg x2) v9) (fun S10 => K34 (x2 + 1) S10))))
def jSuppers_become_27_19_h34 : Nat → Int32 → St → Option (St)
  | 0, _, _ => none
  | n + 1, x2, S => jSuppers_become_27_19_b34 (jSuppers_become_27_19_h34 n) x2 S
def jSuppers_become_27_19 (S : St) : Option (St) :=
  x_lt (upI S 27 3 (S.1 19 3)) (fun S1 => x_lt (upI S1 27 4 (S1.1 19 4)) (fun S2 => x_lt (upI S2 27 5 (S2.1 19 5)) (fun S3 => x_lt (upI S3 27 6 (S3.1 19 6)) (fun S4 => jSuppers_become_27_19_h34 FU 0 S4))))
def jSmoke_keep (x1 : Int32) (S : St) : Option (Int32 × St) :=
  if x1 < 0 then (some ((-1), S)) else (if x1 < 2 then (x_bd (jSmoke_imageOf x1 S) (fun v2 S1 => if v2 = 23 then (x_bv (jSuppers_become_23_19 S1) (fun S3 => x_lt (upI S3 23 7 1) (fun S4 => some (S4.1 23 4, S4)))) else (if v2 = 27 then (x_bv (jSuppers_become_27_19 S1) (fun S5 => x_lt (upI S5 27 7 1) (fun S6 => some (S6.1 27 4, S6)))) else (none)))) else (some ((-1), S)))
def jSuppers_become_19_23_b60 (K60 : Int32 → St → Option (St)) (x2 : Int32) (S : St) : Option (St) :=
  if 20 ≤ x2 then (some S) else (x_ld (S.1 25) 20 x2 (fun v5 => x_gd 20 x2 (x_lt (upI S 21 (Int32.toNatClampNeg x2) v5) (fun S6 => x_ld (S6.1 26) 20 x2 (fun v7 => x_gd 20 x2 (x_lt (upI S6 22 (Int32.toNatClampNeg x2) v7) (fun S8 => K60 (x2 + 1) S8)))))))
def jSuppers_become_19_23_h60 : Nat → Int32 → St → Option (St)
  | 0, _, _ => none
  | n + 1, x2, S => jSuppers_become_19_23_b60 (jSuppers_become_19_23_h60 n) x2 S
def jSuppers_become_19_23_b34 (K34 : Int32 → St → Option (St)) (x2 : Int32) (S : St) : Option (St) :=
  if 30 ≤ x2 then (jSuppers_become_19_23_h60 FU 0 S) else (x_ld (S.1 24) 30 x2 (fun v9 => x_gd 30 x2 (x_lt (upI S 20 (Int32.toNatClampNeg x2) v9) (fun S10 => K34 (x2 + 1) S10))))
def jSuppers_become_19_23_h34 : Nat → Int32 → St → Option (St)
  | 0, _, _ => none
  | n + 1, x2, S => jSuppers_become_19_23_b34 (jSuppers_become_19_23_h34 n) x2 S
def jSuppers_become_19_23 (S : St) : Option (St) :=
  x_lt (upI S 19 3 (S.1 23 3)) (fun S1 => x_lt (upI S1 19 4 (S1.1 23 4)) (fun S2 => x_lt (upI S2 19 5 (S2.1 23 5)) (fun S3 => x_lt (upI S3 19 6 (S3.1 23 6)) (fun S4 => jSuppers_become_19_23_h34 FU 0 S4))))
def jSuppers_become_19_27_b60 (K60 : Int32 → St → Option (St)) (x2 : Int32) (S : St) : Option (St) :=
  if 20 ≤ x2 then (some S) else (x_ld (S.1 29) 20 x2 (fun v5 => x_gd 20 x2 (x_lt (upI S 21 (Int32.toNatClampNeg x2) v5) (fun S6 => x_ld (S6.1 30) 20 x2 (fun v7 => x_gd 20 x2 (x_lt (upI S6 22 (Int32.toNatClampNeg x2) v7) (fun S8 => K60 (x2 + 1) S8)))))))
def jSuppers_become_19_27_h60 : Nat → Int32 → St → Option (St)
  | 0, _, _ => none
  | n + 1, x2, S => jSuppers_become_19_27_b60 (jSuppers_become_19_27_h60 n) x2 S
def jSuppers_become_19_27_b34 (K34 : Int32 → St → Option (St)) (x2 : Int32) (S : St) : Option (St) :=
  if 30 ≤ x2 then (jSuppers_become_19_27_h60 FU 0 S) else (x_ld (S.1 28) 30 x2 (fun v9 => x_gd 30 x2 (x_lt (upI S 20 (Int32.toNatClampNeg x2) v9) (fun S10 => K34 (x2 + 1) S10))))
def jSuppers_become_19_27_h34 : Nat → Int32 → St → Option (St)
  | 0, _, _ => none
  | n + 1, x2, S => jSuppers_become_19_27_b34 (jSuppers_become_19_27_h34 n) x2 S
def jSuppers_become_19_27 (S : St) : Option (St) :=
  x_lt (upI S 19 3 (S.1 27 3)) (fun S1 => x_lt (upI S1 19 4 (S1.1 27 4)) (fun S2 => x_lt (upI S2 19 5 (S2.1 27 5)) (fun S3 => x_lt (upI S3 19 6 (S3.1 27 6)) (fun S4 => jSuppers_become_19_27_h34 FU 0 S4))))
def jSmoke_back (x1 : Int32) (S : St) : Option (Int32 × St) :=
  if x1 < 0 then (some ((-1), S)) else (if x1 < 2 then (x_bd (jSmoke_imageOf x1 S) (fun v2 S1 => if v2 = 23 then (if (S1.1 23 7) = 0 then (some ((-2), S1)) else (x_bv (jSuppers_become_19_23 S1) (fun S3 => some (S3.1 19 4, S3)))) else (if v2 = 27 then (if (S1.1 27 7) = 0 then (some ((-2), S1)) else (x_bv (jSuppers_become_19_27 S1) (fun S4 => some (S4.1 19 4, S4)))) else (none)))) else (some ((-1), S)))
def jSmoke_count (x1 : Int32) (S : St) : Option (Int32 × St) :=
  if x1 = 0 then (some (S.1 19 3, S)) else (if x1 = 1 then (some (S.1 14 4, S)) else (if x1 = 2 then (some (S.1 19 4, S)) else (if x1 = 3 then (some (S.1 19 5, S)) else (if x1 = 4 then (some (S.1 1 1, S)) else (some ((-1), S))))))
def jSmoke_trace (S : St) : Option (Int64 × St) :=
  some (S.2 0 9, S)
