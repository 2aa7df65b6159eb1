/-! names of the callees, and the cells of the two worlds -/
def FU : Nat := 1024
def cellC (T : Nat → ClassId) (q : Nat → Nat) : Cf := fun k f g => match k with
  | 0 => .inr (6, [.ref (q 1), .ref (q 3), .ref (q 14), .ref (q 19), .ref (q 23), .ref (q 27), .ref (q 31), .ref (q 36), .ref (q 39), .long (g 9)])
  | 1 => .inr (5, [.ref (q 2), .int (f 1), .int (f 2), .int (f 3), .int (f 4), .int (f 5)])
  | 2 => .inl (T 0, 300, .inl f)
  | 3 => .inr (4, [.ref (q 4), .ref (q 9), .ref (q 13), .int (f 3)])
  | 4 => .inr (1, [.ref (q 5), .ref (q 6), .ref (q 7), .ref (q 8), .int (f 4)])
  | 5 => .inl (T 0, 40, .inl f)
  | 6 => .inl (T 0, 8, .inl f)
  | 7 => .inl (T 0, 8, .inl f)
  | 8 => .inl (T 0, 8, .inl f)
  | 9 => .inr (3, [.ref (q 10), .ref (q 11), .ref (q 12), .int (f 3), .int (f 4), .int (f 5), .int (f 6), .int (f 7)])
  | 10 => .inl (T 0, 30, .inl f)
  | 11 => .inl (T 0, 20, .inl f)
  | 12 => .inl (T 0, 20, .inl f)
  | 13 => .inl (T 0, 7, .inl f)
  | 14 => .inr (1, [.ref (q 15), .ref (q 16), .ref (q 17), .ref (q 18), .int (f 4)])
  | 15 => .inl (T 0, 40, .inl f)
  | 16 => .inl (T 0, 8, .inl f)
  | 17 => .inl (T 0, 8, .inl f)
  | 18 => .inl (T 0, 8, .inl f)
  | 19 => .inr (3, [.ref (q 20), .ref (q 21), .ref (q 22), .int (f 3), .int (f 4), .int (f 5), .int (f 6), .int (f 7)])
  | 20 => .inl (T 0, 30, .inl f)
  | 21 => .inl (T 0, 20, .inl f)
  | 22 => .inl (T 0, 20, .inl f)
  | 23 => .inr (3, [.ref (q 24), .ref (q 25), .ref (q 26), .int (f 3), .int (f 4), .int (f 5), .int (f 6), .int (f 7)])
  | 24 => .inl (T 0, 30, .inl f)
  | 25 => .inl (T 0, 20, .inl f)
  | 26 => .inl (T 0, 20, .inl f)
  | 27 => .inr (3, [.ref (q 28), .ref (q 29), .ref (q 30), .int (f 3), .int (f 4), .int (f 5), .int (f 6), .int (f 7)])
  | 28 => .inl (T 0, 30, .inl f)
  | 29 => .inl (T 0, 20, .inl f)
  | 30 => .inl (T 0, 20, .inl f)
  | 31 => .inr (2, [.ref (q 32), .ref (q 33), .ref (q 34), .ref (q 35), .int (f 4), .int (f 5)])
  | 32 => .inl (T 0, 3, .inl f)
  | 33 => .inl (T 0, 3, .inl f)
  | 34 => .inl (T 0, 3, .inl f)
  | 35 => .inl (T 0, 5, .inl f)
  | 36 => .inr (0, [.ref (q 37), .ref (q 38)])
  | 37 => .inl (T 1, 8, .inr (.inl g))
  | 38 => .inl (T 1, 8, .inr (.inl g))
  | _ => .inl (T 0, 5, .inl f)
def cellM (T : Nat → ClassId) (q : Nat → Nat) : Cf := fun k f g => match k with
  | 0 => .inr (7, [.long (g 0), .ref (q 1), .int (f 2), .ref (q 2), .ref (q 3), .ref (q 4), .ref (q 5), .ref (q 6), .ref (q 7), .ref (q 8), .int (f 10), .int (f 11), .int (f 12), .int (f 13), .int (f 14), .int (f 15), .ref (q 9), .ref (q 10), .ref (q 11), .ref (q 12), .ref (q 13), .ref (q 14), .ref (q 15), .ref (q 16)])
  | 1 => .inl (T 2, 300, .inl f)
  | 2 => .inl (T 0, 2, .inl f)
  | 3 => .inl (T 0, 60, .inl f)
  | 4 => .inl (T 0, 2, .inl f)
  | 5 => .inl (T 0, 80, .inl f)
  | 6 => .inl (T 0, 16, .inl f)
  | 7 => .inl (T 0, 16, .inl f)
  | 8 => .inl (T 0, 2, .inl f)
  | 9 => .inl (T 0, 219, .inl f)
  | 10 => .inl (T 3, 2, .inl f)
  | 11 => .inl (T 0, 3, .inl f)
  | 12 => .inl (T 0, 3, .inl f)
  | 13 => .inl (T 0, 3, .inl f)
  | 14 => .inl (T 1, 8, .inr (.inl g))
  | 15 => .inl (T 1, 8, .inr (.inl g))
  | _ => .inl (T 0, 5, .inl f)
/-! the texts house, dish, fog; what the class only reads -/
def lenS : List Nat := [5, 4, 3]
def bytS : List (List Int32) := [[104, 111, 117, 115, 101], [100, 105, 115, 104], [102, 111, 103]]
def sc_ch (i k : Nat) : Int32 := (bytS.getD i []).getD k 0 &&& 255
def ExC (aK aV : Nat → Nat) (A : Nat → Prop) (U : State) (H : Heap) : Prop :=
  vk_S 3 lenS bytS aK aV A U H ∧ va_Z "java/lang/String" "COMPACT_STRINGS" "Z" (.int 1) A U H ∧ va_Zq "jdk/internal/util/Preconditions" "SIOOBE_FORMATTER" "Ljava/util/function/BiFunction;" A U H ∧ vk_R RX5 48 "house" (aK 0) U ∧ vk_R RX5 54 "dish" (aK 1) U ∧ vk_R RX5 56 "fog" (aK 2) U ∧ va_Nw (.methodLinkNest RX0 24 yX6_isWord RX6) U
def ExM (_ : Nat → Prop) (_ : State) (_ : Heap) : Prop := True
theorem ExC_ok {aK aV : Nat → Nat} : XE (ExC aK aV) :=
  ⟨fun _ _ _ _ hW h => ⟨vk_S.moved hW.alike h.1, va_Z.moved hW.alike h.2.1, va_Zq.moved hW.alike h.2.2.1, vk_R.warm hW h.2.2.2.1, vk_R.warm hW h.2.2.2.2.1, vk_R.warm hW h.2.2.2.2.2.1, va_Nw.warmM hW h.2.2.2.2.2.2⟩,
   fun _ _ _ _ hq h => ⟨vk_S.kept h.1 hq, va_Z.kept h.2.1 hq, va_Zq.kept h.2.2.1 hq, h.2.2.2⟩,
   fun _ _ _ _ hAB h => ⟨vk_S.narrow h.1 hAB, va_Z.narrow h.2.1 hAB, va_Zq.narrow h.2.2.1 hAB, h.2.2.2⟩⟩
theorem ExM_ok : XE ExM := ⟨fun _ _ _ _ _ _ => trivial, fun _ _ _ _ _ _ => trivial, fun _ _ _ _ _ _ => trivial⟩
theorem x_lko {x : Int32} (h1 : ¬ x.toInt = 4786) (h2 : ¬ x.toInt = 85814) (h3 : ¬ x.toInt = 4562600) {a b c d : Int} : Op.lookupswitch.offset [(4786, a), (85814, b), (4562600, c)] d x.toInt = d := by
  have g1 : ¬ (4786 : Int) = x.toInt := fun z => h1 z.symm
  have g2 : ¬ (85814 : Int) = x.toInt := fun z => h2 z.symm
  have g3 : ¬ (4562600 : Int) = x.toInt := fun z => h3 z.symm
  simp [Op.lookupswitch.offset, g1, g2, g3]
theorem hdJ6_bitCount_0f7a4 : yJ6_bitCount_0f7a4.cls ≠ "java/lang/invoke/MethodHandle" ∧ yJ6_bitCount_0f7a4.cls ≠ "java/lang/invoke/VarHandle" ∧ (parseMethodDescriptor yJ6_bitCount_0f7a4.desc).map (fun d => d.parameters.length) = some 1 := by decide +kernel
theorem hdX0_begin : yX0_begin.cls = RX0 ∧ yX0_begin.cls ≠ "java/lang/invoke/MethodHandle" ∧ yX0_begin.cls ≠ "java/lang/invoke/VarHandle" ∧ (parseMethodDescriptor yX0_begin.desc).map (fun d => d.parameters.length) = some 1 := by decide +kernel
theorem hdX0_read : yX0_read.cls = RX0 ∧ yX0_read.cls ≠ "java/lang/invoke/MethodHandle" ∧ yX0_read.cls ≠ "java/lang/invoke/VarHandle" ∧ (parseMethodDescriptor yX0_read.desc).map (fun d => d.parameters.length) = some 2 := by decide +kernel
theorem hdX1_anySays : yX1_anySays.cls = RX1 ∧ yX1_anySays.cls ≠ "java/lang/invoke/MethodHandle" ∧ yX1_anySays.cls ≠ "java/lang/invoke/VarHandle" ∧ (parseMethodDescriptor yX1_anySays.desc).map (fun d => d.parameters.length) = some 2 := by decide +kernel
theorem hdX1_become : yX1_become.cls = RX1 ∧ yX1_become.cls ≠ "java/lang/invoke/MethodHandle" ∧ yX1_become.cls ≠ "java/lang/invoke/VarHandle" ∧ (parseMethodDescriptor yX1_become.desc).map (fun d => d.parameters.length) = some 1 := by decide +kernel
theorem hdX1_fits : yX1_fits.cls = RX1 ∧ yX1_fits.cls ≠ "java/lang/invoke/MethodHandle" ∧ yX1_fits.cls ≠ "java/lang/invoke/VarHandle" ∧ (parseMethodDescriptor yX1_fits.desc).map (fun d => d.parameters.length) = some 2 := by decide +kernel
theorem hdX1_holds : yX1_holds.cls ≠ "java/lang/invoke/MethodHandle" ∧ yX1_holds.cls ≠ "java/lang/invoke/VarHandle" ∧ (parseMethodDescriptor yX1_holds.desc).map (fun d => d.parameters.length) = some 2 := by decide +kernel
theorem hdX1_leanest : yX1_leanest.cls = RX1 ∧ yX1_leanest.cls ≠ "java/lang/invoke/MethodHandle" ∧ yX1_leanest.cls ≠ "java/lang/invoke/VarHandle" ∧ (parseMethodDescriptor yX1_leanest.desc).map (fun d => d.parameters.length) = some 1 := by decide +kernel
theorem hdX1_leastSaying : yX1_leastSaying.cls = RX1 ∧ yX1_leastSaying.cls ≠ "java/lang/invoke/MethodHandle" ∧ yX1_leastSaying.cls ≠ "java/lang/invoke/VarHandle" ∧ (parseMethodDescriptor yX1_leastSaying.desc).map (fun d => d.parameters.length) = some 1 := by decide +kernel
theorem hdX1_list : yX1_list.cls = RX1 ∧ yX1_list.cls ≠ "java/lang/invoke/MethodHandle" ∧ yX1_list.cls ≠ "java/lang/invoke/VarHandle" ∧ (parseMethodDescriptor yX1_list.desc).map (fun d => d.parameters.length) = some 1 := by decide +kernel
theorem hdX1_lists : yX1_lists.cls = RX1 ∧ yX1_lists.cls ≠ "java/lang/invoke/MethodHandle" ∧ yX1_lists.cls ≠ "java/lang/invoke/VarHandle" ∧ (parseMethodDescriptor yX1_lists.desc).map (fun d => d.parameters.length) = some 1 := by decide +kernel
theorem hdX1_meaning : yX1_meaning.cls = RX1 ∧ yX1_meaning.cls ≠ "java/lang/invoke/MethodHandle" ∧ yX1_meaning.cls ≠ "java/lang/invoke/VarHandle" ∧ (parseMethodDescriptor yX1_meaning.desc).map (fun d => d.parameters.length) = some 1 := by decide +kernel
theorem hdX1_need : yX1_need.cls = RX1 ∧ yX1_need.cls ≠ "java/lang/invoke/MethodHandle" ∧ yX1_need.cls ≠ "java/lang/invoke/VarHandle" ∧ (parseMethodDescriptor yX1_need.desc).map (fun d => d.parameters.length) = some 2 := by decide +kernel
theorem hdX1_putBack : yX1_putBack.cls = RX1 ∧ yX1_putBack.cls ≠ "java/lang/invoke/MethodHandle" ∧ yX1_putBack.cls ≠ "java/lang/invoke/VarHandle" ∧ (parseMethodDescriptor yX1_putBack.desc).map (fun d => d.parameters.length) = some 2 := by decide +kernel
theorem hdX1_smokeOfAll : yX1_smokeOfAll.cls = RX1 ∧ yX1_smokeOfAll.cls ≠ "java/lang/invoke/MethodHandle" ∧ yX1_smokeOfAll.cls ≠ "java/lang/invoke/VarHandle" ∧ (parseMethodDescriptor yX1_smokeOfAll.desc).map (fun d => d.parameters.length) = some 1 := by decide +kernel
theorem hdX1_standsOff : yX1_standsOff.cls = RX1 ∧ yX1_standsOff.cls ≠ "java/lang/invoke/MethodHandle" ∧ yX1_standsOff.cls ≠ "java/lang/invoke/VarHandle" ∧ (parseMethodDescriptor yX1_standsOff.desc).map (fun d => d.parameters.length) = some 3 := by decide +kernel
theorem hdX1_take : yX1_take.cls = RX1 ∧ yX1_take.cls ≠ "java/lang/invoke/MethodHandle" ∧ yX1_take.cls ≠ "java/lang/invoke/VarHandle" ∧ (parseMethodDescriptor yX1_take.desc).map (fun d => d.parameters.length) = some 2 := by decide +kernel
theorem hdX1_tellsApart : yX1_tellsApart.cls = RX1 ∧ yX1_tellsApart.cls ≠ "java/lang/invoke/MethodHandle" ∧ yX1_tellsApart.cls ≠ "java/lang/invoke/VarHandle" ∧ (parseMethodDescriptor yX1_tellsApart.desc).map (fun d => d.parameters.length) = some 3 := by decide +kernel
theorem hdX2_choose : yX2_choose.cls ≠ "java/lang/invoke/MethodHandle" ∧ yX2_choose.cls ≠ "java/lang/invoke/VarHandle" ∧ (parseMethodDescriptor yX2_choose.desc).map (fun d => d.parameters.length) = some 5 := by decide +kernel
theorem hdX2_compare : yX2_compare.cls = RX2 ∧ yX2_compare.cls ≠ "java/lang/invoke/MethodHandle" ∧ yX2_compare.cls ≠ "java/lang/invoke/VarHandle" ∧ (parseMethodDescriptor yX2_compare.desc).map (fun d => d.parameters.length) = some 1 := by decide +kernel
theorem hdX2_fewestUnits : yX2_fewestUnits.cls = RX2 ∧ yX2_fewestUnits.cls ≠ "java/lang/invoke/MethodHandle" ∧ yX2_fewestUnits.cls ≠ "java/lang/invoke/VarHandle" ∧ (parseMethodDescriptor yX2_fewestUnits.desc).map (fun d => d.parameters.length) = some 2 := by decide +kernel
theorem hdX2_hear : yX2_hear.cls = RX2 ∧ yX2_hear.cls ≠ "java/lang/invoke/MethodHandle" ∧ yX2_hear.cls ≠ "java/lang/invoke/VarHandle" ∧ (parseMethodDescriptor yX2_hear.desc).map (fun d => d.parameters.length) = some 3 := by decide +kernel
theorem hdX2_mostPlaces : yX2_mostPlaces.cls = RX2 ∧ yX2_mostPlaces.cls ≠ "java/lang/invoke/MethodHandle" ∧ yX2_mostPlaces.cls ≠ "java/lang/invoke/VarHandle" ∧ (parseMethodDescriptor yX2_mostPlaces.desc).map (fun d => d.parameters.length) = some 1 := by decide +kernel
theorem hdX3_allStock : yX3_allStock.cls = RX3 ∧ yX3_allStock.cls ≠ "java/lang/invoke/MethodHandle" ∧ yX3_allStock.cls ≠ "java/lang/invoke/VarHandle" ∧ (parseMethodDescriptor yX3_allStock.desc).map (fun d => d.parameters.length) = some 1 := by decide +kernel
theorem hdX3_become : yX3_become.cls = RX3 ∧ yX3_become.cls ≠ "java/lang/invoke/MethodHandle" ∧ yX3_become.cls ≠ "java/lang/invoke/VarHandle" ∧ (parseMethodDescriptor yX3_become.desc).map (fun d => d.parameters.length) = some 1 := by decide +kernel
theorem hdX3_change : yX3_change.cls = RX3 ∧ yX3_change.cls ≠ "java/lang/invoke/MethodHandle" ∧ yX3_change.cls ≠ "java/lang/invoke/VarHandle" ∧ (parseMethodDescriptor yX3_change.desc).map (fun d => d.parameters.length) = some 3 := by decide +kernel
theorem hdX3_draw : yX3_draw.cls = RX3 ∧ yX3_draw.cls ≠ "java/lang/invoke/MethodHandle" ∧ yX3_draw.cls ≠ "java/lang/invoke/VarHandle" ∧ (parseMethodDescriptor yX3_draw.desc).map (fun d => d.parameters.length) = some 0 := by decide +kernel
theorem hdX3_fill : yX3_fill.cls = RX3 ∧ yX3_fill.cls ≠ "java/lang/invoke/MethodHandle" ∧ yX3_fill.cls ≠ "java/lang/invoke/VarHandle" ∧ (parseMethodDescriptor yX3_fill.desc).map (fun d => d.parameters.length) = some 2 := by decide +kernel
theorem hdX3_hasHouse : yX3_hasHouse.cls = RX3 ∧ yX3_hasHouse.cls ≠ "java/lang/invoke/MethodHandle" ∧ yX3_hasHouse.cls ≠ "java/lang/invoke/VarHandle" ∧ (parseMethodDescriptor yX3_hasHouse.desc).map (fun d => d.parameters.length) = some 1 := by decide +kernel
theorem hdX3_rise : yX3_rise.cls = RX3 ∧ yX3_rise.cls ≠ "java/lang/invoke/MethodHandle" ∧ yX3_rise.cls ≠ "java/lang/invoke/VarHandle" ∧ (parseMethodDescriptor yX3_rise.desc).map (fun d => d.parameters.length) = some 2 := by decide +kernel
theorem hdX3_settle : yX3_settle.cls = RX3 ∧ yX3_settle.cls ≠ "java/lang/invoke/MethodHandle" ∧ yX3_settle.cls ≠ "java/lang/invoke/VarHandle" ∧ (parseMethodDescriptor yX3_settle.desc).map (fun d => d.parameters.length) = some 1 := by decide +kernel
theorem hdX3_stock : yX3_stock.cls = RX3 ∧ yX3_stock.cls ≠ "java/lang/invoke/MethodHandle" ∧ yX3_stock.cls ≠ "java/lang/invoke/VarHandle" ∧ (parseMethodDescriptor yX3_stock.desc).map (fun d => d.parameters.length) = some 2 := by decide +kernel
theorem hdX3_thousandths : yX3_thousandths.cls = RX3 ∧ yX3_thousandths.cls ≠ "java/lang/invoke/MethodHandle" ∧ yX3_thousandths.cls ≠ "java/lang/invoke/VarHandle" ∧ (parseMethodDescriptor yX3_thousandths.desc).map (fun d => d.parameters.length) = some 2 := by decide +kernel
theorem hdX4_draft : yX4_draft.cls = RX4 ∧ yX4_draft.cls ≠ "java/lang/invoke/MethodHandle" ∧ yX4_draft.cls ≠ "java/lang/invoke/VarHandle" ∧ (parseMethodDescriptor yX4_draft.desc).map (fun d => d.parameters.length) = some 1 := by decide +kernel
theorem hdX4_mayBegin : yX4_mayBegin.cls = RX4 ∧ yX4_mayBegin.cls ≠ "java/lang/invoke/MethodHandle" ∧ yX4_mayBegin.cls ≠ "java/lang/invoke/VarHandle" ∧ (parseMethodDescriptor yX4_mayBegin.desc).map (fun d => d.parameters.length) = some 1 := by decide +kernel
theorem hdX4_mostOf : yX4_mostOf.cls ≠ "java/lang/invoke/MethodHandle" ∧ yX4_mostOf.cls ≠ "java/lang/invoke/VarHandle" ∧ (parseMethodDescriptor yX4_mostOf.desc).map (fun d => d.parameters.length) = some 2 := by decide +kernel
theorem hdX4_numbersOf : yX4_numbersOf.cls ≠ "java/lang/invoke/MethodHandle" ∧ yX4_numbersOf.cls ≠ "java/lang/invoke/VarHandle" ∧ (parseMethodDescriptor yX4_numbersOf.desc).map (fun d => d.parameters.length) = some 1 := by decide +kernel
theorem hdX4_readAll : yX4_readAll.cls = RX4 ∧ yX4_readAll.cls ≠ "java/lang/invoke/MethodHandle" ∧ yX4_readAll.cls ≠ "java/lang/invoke/VarHandle" ∧ (parseMethodDescriptor yX4_readAll.desc).map (fun d => d.parameters.length) = some 1 := by decide +kernel
theorem hdX4_readItem : yX4_readItem.cls = RX4 ∧ yX4_readItem.cls ≠ "java/lang/invoke/MethodHandle" ∧ yX4_readItem.cls ≠ "java/lang/invoke/VarHandle" ∧ (parseMethodDescriptor yX4_readItem.desc).map (fun d => d.parameters.length) = some 1 := by decide +kernel
theorem hdX5_append : yX5_append.cls = RX5 ∧ yX5_append.cls ≠ "java/lang/invoke/MethodHandle" ∧ yX5_append.cls ≠ "java/lang/invoke/VarHandle" ∧ (parseMethodDescriptor yX5_append.desc).map (fun d => d.parameters.length) = some 1 := by decide +kernel
theorem hdX5_isDigit : yX5_isDigit.cls ≠ "java/lang/invoke/MethodHandle" ∧ yX5_isDigit.cls ≠ "java/lang/invoke/VarHandle" ∧ (parseMethodDescriptor yX5_isDigit.desc).map (fun d => d.parameters.length) = some 1 := by decide +kernel
theorem hdX5_isLetter : yX5_isLetter.cls ≠ "java/lang/invoke/MethodHandle" ∧ yX5_isLetter.cls ≠ "java/lang/invoke/VarHandle" ∧ (parseMethodDescriptor yX5_isLetter.desc).map (fun d => d.parameters.length) = some 1 := by decide +kernel
theorem hdX5_readName : yX5_readName.cls = RX5 ∧ yX5_readName.cls ≠ "java/lang/invoke/MethodHandle" ∧ yX5_readName.cls ≠ "java/lang/invoke/VarHandle" ∧ (parseMethodDescriptor yX5_readName.desc).map (fun d => d.parameters.length) = some 0 := by decide +kernel
theorem hdX5_readNumber : yX5_readNumber.cls = RX5 ∧ yX5_readNumber.cls ≠ "java/lang/invoke/MethodHandle" ∧ yX5_readNumber.cls ≠ "java/lang/invoke/VarHandle" ∧ (parseMethodDescriptor yX5_readNumber.desc).map (fun d => d.parameters.length) = some 0 := by decide +kernel
theorem hdX5_rewind : yX5_rewind.cls = RX5 ∧ yX5_rewind.cls ≠ "java/lang/invoke/MethodHandle" ∧ yX5_rewind.cls ≠ "java/lang/invoke/VarHandle" ∧ (parseMethodDescriptor yX5_rewind.desc).map (fun d => d.parameters.length) = some 0 := by decide +kernel
theorem hdX5_spells : yX5_spells.cls = RX5 ∧ yX5_spells.cls ≠ "java/lang/invoke/MethodHandle" ∧ yX5_spells.cls ≠ "java/lang/invoke/VarHandle" ∧ (parseMethodDescriptor yX5_spells.desc).map (fun d => d.parameters.length) = some 1 := by decide +kernel
theorem hdX5_step : yX5_step.cls = RX5 ∧ yX5_step.cls ≠ "java/lang/invoke/MethodHandle" ∧ yX5_step.cls ≠ "java/lang/invoke/VarHandle" ∧ (parseMethodDescriptor yX5_step.desc).map (fun d => d.parameters.length) = some 0 := by decide +kernel
theorem hdX6_back : yX6_back.cls = RX6 ∧ yX6_back.cls ≠ "java/lang/invoke/MethodHandle" ∧ yX6_back.cls ≠ "java/lang/invoke/VarHandle" ∧ (parseMethodDescriptor yX6_back.desc).map (fun d => d.parameters.length) = some 1 := by decide +kernel
theorem hdX6_burns : yX6_burns.cls = RX6 ∧ yX6_burns.cls ≠ "java/lang/invoke/MethodHandle" ∧ yX6_burns.cls ≠ "java/lang/invoke/VarHandle" ∧ (parseMethodDescriptor yX6_burns.desc).map (fun d => d.parameters.length) = some 1 := by decide +kernel
theorem hdX6_chain : yX6_chain.cls = RX6 ∧ yX6_chain.cls ≠ "java/lang/invoke/MethodHandle" ∧ yX6_chain.cls ≠ "java/lang/invoke/VarHandle" ∧ (parseMethodDescriptor yX6_chain.desc).map (fun d => d.parameters.length) = some 3 := by decide +kernel
theorem hdX6_clear : yX6_clear.cls = RX6 ∧ yX6_clear.cls ≠ "java/lang/invoke/MethodHandle" ∧ yX6_clear.cls ≠ "java/lang/invoke/VarHandle" ∧ (parseMethodDescriptor yX6_clear.desc).map (fun d => d.parameters.length) = some 0 := by decide +kernel
theorem hdX6_code : yX6_code.cls = RX6 ∧ yX6_code.cls ≠ "java/lang/invoke/MethodHandle" ∧ yX6_code.cls ≠ "java/lang/invoke/VarHandle" ∧ (parseMethodDescriptor yX6_code.desc).map (fun d => d.parameters.length) = some 3 := by decide +kernel
theorem hdX6_cook : yX6_cook.cls = RX6 ∧ yX6_cook.cls ≠ "java/lang/invoke/MethodHandle" ∧ yX6_cook.cls ≠ "java/lang/invoke/VarHandle" ∧ (parseMethodDescriptor yX6_cook.desc).map (fun d => d.parameters.length) = some 2 := by decide +kernel
theorem hdX6_couldCook : yX6_couldCook.cls = RX6 ∧ yX6_couldCook.cls ≠ "java/lang/invoke/MethodHandle" ∧ yX6_couldCook.cls ≠ "java/lang/invoke/VarHandle" ∧ (parseMethodDescriptor yX6_couldCook.desc).map (fun d => d.parameters.length) = some 2 := by decide +kernel
theorem hdX6_count : yX6_count.cls = RX6 ∧ yX6_count.cls ≠ "java/lang/invoke/MethodHandle" ∧ yX6_count.cls ≠ "java/lang/invoke/VarHandle" ∧ (parseMethodDescriptor yX6_count.desc).map (fun d => d.parameters.length) = some 1 := by decide +kernel
theorem hdX6_days : yX6_days.cls = RX6 ∧ yX6_days.cls ≠ "java/lang/invoke/MethodHandle" ∧ yX6_days.cls ≠ "java/lang/invoke/VarHandle" ∧ (parseMethodDescriptor yX6_days.desc).map (fun d => d.parameters.length) = some 1 := by decide +kernel
theorem hdX6_dish : yX6_dish.cls = RX6 ∧ yX6_dish.cls ≠ "java/lang/invoke/MethodHandle" ∧ yX6_dish.cls ≠ "java/lang/invoke/VarHandle" ∧ (parseMethodDescriptor yX6_dish.desc).map (fun d => d.parameters.length) = some 2 := by decide +kernel
theorem hdX6_drawn : yX6_drawn.cls = RX6 ∧ yX6_drawn.cls ≠ "java/lang/invoke/MethodHandle" ∧ yX6_drawn.cls ≠ "java/lang/invoke/VarHandle" ∧ (parseMethodDescriptor yX6_drawn.desc).map (fun d => d.parameters.length) = some 1 := by decide +kernel
theorem hdX6_feast : yX6_feast.cls = RX6 ∧ yX6_feast.cls ≠ "java/lang/invoke/MethodHandle" ∧ yX6_feast.cls ≠ "java/lang/invoke/VarHandle" ∧ (parseMethodDescriptor yX6_feast.desc).map (fun d => d.parameters.length) = some 2 := by decide +kernel
theorem hdX6_fog : yX6_fog.cls = RX6 ∧ yX6_fog.cls ≠ "java/lang/invoke/MethodHandle" ∧ yX6_fog.cls ≠ "java/lang/invoke/VarHandle" ∧ (parseMethodDescriptor yX6_fog.desc).map (fun d => d.parameters.length) = some 1 := by decide +kernel
theorem hdX6_gives : yX6_gives.cls = RX6 ∧ yX6_gives.cls ≠ "java/lang/invoke/MethodHandle" ∧ yX6_gives.cls ≠ "java/lang/invoke/VarHandle" ∧ (parseMethodDescriptor yX6_gives.desc).map (fun d => d.parameters.length) = some 4 := by decide +kernel
theorem hdX6_house : yX6_house.cls = RX6 ∧ yX6_house.cls ≠ "java/lang/invoke/MethodHandle" ∧ yX6_house.cls ≠ "java/lang/invoke/VarHandle" ∧ (parseMethodDescriptor yX6_house.desc).map (fun d => d.parameters.length) = some 2 := by decide +kernel
theorem hdX6_imageOf : yX6_imageOf.cls = RX6 ∧ yX6_imageOf.cls ≠ "java/lang/invoke/MethodHandle" ∧ yX6_imageOf.cls ≠ "java/lang/invoke/VarHandle" ∧ (parseMethodDescriptor yX6_imageOf.desc).map (fun d => d.parameters.length) = some 1 := by decide +kernel
theorem hdX6_isRow : yX6_isRow.cls ≠ "java/lang/invoke/MethodHandle" ∧ yX6_isRow.cls ≠ "java/lang/invoke/VarHandle" ∧ (parseMethodDescriptor yX6_isRow.desc).map (fun d => d.parameters.length) = some 3 := by decide +kernel
theorem hdX6_isSmoke : yX6_isSmoke.cls ≠ "java/lang/invoke/MethodHandle" ∧ yX6_isSmoke.cls ≠ "java/lang/invoke/VarHandle" ∧ (parseMethodDescriptor yX6_isSmoke.desc).map (fun d => d.parameters.length) = some 1 := by decide +kernel
theorem hdX6_isWord : yX6_isWord.cls ≠ "java/lang/invoke/MethodHandle" ∧ yX6_isWord.cls ≠ "java/lang/invoke/VarHandle" ∧ (parseMethodDescriptor yX6_isWord.desc).map (fun d => d.parameters.length) = some 1 := by decide +kernel
theorem hdX6_keep : yX6_keep.cls = RX6 ∧ yX6_keep.cls ≠ "java/lang/invoke/MethodHandle" ∧ yX6_keep.cls ≠ "java/lang/invoke/VarHandle" ∧ (parseMethodDescriptor yX6_keep.desc).map (fun d => d.parameters.length) = some 1 := by decide +kernel
theorem hdX6_leastTerms : yX6_leastTerms.cls ≠ "java/lang/invoke/MethodHandle" ∧ yX6_leastTerms.cls ≠ "java/lang/invoke/VarHandle" ∧ (parseMethodDescriptor yX6_leastTerms.desc).map (fun d => d.parameters.length) = some 3 := by decide +kernel
theorem hdX6_lot : yX6_lot.cls = RX6 ∧ yX6_lot.cls ≠ "java/lang/invoke/MethodHandle" ∧ yX6_lot.cls ≠ "java/lang/invoke/VarHandle" ∧ (parseMethodDescriptor yX6_lot.desc).map (fun d => d.parameters.length) = some 1 := by decide +kernel
theorem hdX6_mark : yX6_mark.cls = RX6 ∧ yX6_mark.cls ≠ "java/lang/invoke/MethodHandle" ∧ yX6_mark.cls ≠ "java/lang/invoke/VarHandle" ∧ (parseMethodDescriptor yX6_mark.desc).map (fun d => d.parameters.length) = some 2 := by decide +kernel
theorem hdX6_markOfBrides : yX6_markOfBrides.cls = RX6 ∧ yX6_markOfBrides.cls ≠ "java/lang/invoke/MethodHandle" ∧ yX6_markOfBrides.cls ≠ "java/lang/invoke/VarHandle" ∧ (parseMethodDescriptor yX6_markOfBrides.desc).map (fun d => d.parameters.length) = some 1 := by decide +kernel
theorem hdX6_markOfBurnt : yX6_markOfBurnt.cls = RX6 ∧ yX6_markOfBurnt.cls ≠ "java/lang/invoke/MethodHandle" ∧ yX6_markOfBurnt.cls ≠ "java/lang/invoke/VarHandle" ∧ (parseMethodDescriptor yX6_markOfBurnt.desc).map (fun d => d.parameters.length) = some 1 := by decide +kernel
theorem hdX6_markOfDish : yX6_markOfDish.cls = RX6 ∧ yX6_markOfDish.cls ≠ "java/lang/invoke/MethodHandle" ∧ yX6_markOfDish.cls ≠ "java/lang/invoke/VarHandle" ∧ (parseMethodDescriptor yX6_markOfDish.desc).map (fun d => d.parameters.length) = some 1 := by decide +kernel
theorem hdX6_markOfPoor : yX6_markOfPoor.cls = RX6 ∧ yX6_markOfPoor.cls ≠ "java/lang/invoke/MethodHandle" ∧ yX6_markOfPoor.cls ≠ "java/lang/invoke/VarHandle" ∧ (parseMethodDescriptor yX6_markOfPoor.desc).map (fun d => d.parameters.length) = some 1 := by decide +kernel
theorem hdX6_markOfRoast : yX6_markOfRoast.cls = RX6 ∧ yX6_markOfRoast.cls ≠ "java/lang/invoke/MethodHandle" ∧ yX6_markOfRoast.cls ≠ "java/lang/invoke/VarHandle" ∧ (parseMethodDescriptor yX6_markOfRoast.desc).map (fun d => d.parameters.length) = some 1 := by decide +kernel
theorem hdX6_markOfStew : yX6_markOfStew.cls = RX6 ∧ yX6_markOfStew.cls ≠ "java/lang/invoke/MethodHandle" ∧ yX6_markOfStew.cls ≠ "java/lang/invoke/VarHandle" ∧ (parseMethodDescriptor yX6_markOfStew.desc).map (fun d => d.parameters.length) = some 1 := by decide +kernel
theorem hdX6_means : yX6_means.cls = RX6 ∧ yX6_means.cls ≠ "java/lang/invoke/MethodHandle" ∧ yX6_means.cls ≠ "java/lang/invoke/VarHandle" ∧ (parseMethodDescriptor yX6_means.desc).map (fun d => d.parameters.length) = some 1 := by decide +kernel
theorem hdX6_nearest : yX6_nearest.cls = RX6 ∧ yX6_nearest.cls ≠ "java/lang/invoke/MethodHandle" ∧ yX6_nearest.cls ≠ "java/lang/invoke/VarHandle" ∧ (parseMethodDescriptor yX6_nearest.desc).map (fun d => d.parameters.length) = some 4 := by decide +kernel
theorem hdX6_plume : yX6_plume.cls = RX6 ∧ yX6_plume.cls ≠ "java/lang/invoke/MethodHandle" ∧ yX6_plume.cls ≠ "java/lang/invoke/VarHandle" ∧ (parseMethodDescriptor yX6_plume.desc).map (fun d => d.parameters.length) = some 2 := by decide +kernel
theorem hdX6_reads : yX6_reads.cls = RX6 ∧ yX6_reads.cls ≠ "java/lang/invoke/MethodHandle" ∧ yX6_reads.cls ≠ "java/lang/invoke/VarHandle" ∧ (parseMethodDescriptor yX6_reads.desc).map (fun d => d.parameters.length) = some 2 := by decide +kernel
theorem hdX6_says : yX6_says.cls = RX6 ∧ yX6_says.cls ≠ "java/lang/invoke/MethodHandle" ∧ yX6_says.cls ≠ "java/lang/invoke/VarHandle" ∧ (parseMethodDescriptor yX6_says.desc).map (fun d => d.parameters.length) = some 5 := by decide +kernel
theorem hdX6_silent : yX6_silent.cls = RX6 ∧ yX6_silent.cls ≠ "java/lang/invoke/MethodHandle" ∧ yX6_silent.cls ≠ "java/lang/invoke/VarHandle" ∧ (parseMethodDescriptor yX6_silent.desc).map (fun d => d.parameters.length) = some 1 := by decide +kernel
theorem hdX6_trace : yX6_trace.cls = RX6 ∧ yX6_trace.cls ≠ "java/lang/invoke/MethodHandle" ∧ yX6_trace.cls ≠ "java/lang/invoke/VarHandle" ∧ (parseMethodDescriptor yX6_trace.desc).map (fun d => d.parameters.length) = some 0 := by decide +kernel
theorem hdX6_type : yX6_type.cls = RX6 ∧ yX6_type.cls ≠ "java/lang/invoke/MethodHandle" ∧ yX6_type.cls ≠ "java/lang/invoke/VarHandle" ∧ (parseMethodDescriptor yX6_type.desc).map (fun d => d.parameters.length) = some 2 := by decide +kernel
theorem hdX6_undo : yX6_undo.cls = RX6 ∧ yX6_undo.cls ≠ "java/lang/invoke/MethodHandle" ∧ yX6_undo.cls ≠ "java/lang/invoke/VarHandle" ∧ (parseMethodDescriptor yX6_undo.desc).map (fun d => d.parameters.length) = some 0 := by decide +kernel
theorem hdX6_valley : yX6_valley.cls = RX6 ∧ yX6_valley.cls ≠ "java/lang/invoke/MethodHandle" ∧ yX6_valley.cls ≠ "java/lang/invoke/VarHandle" ∧ (parseMethodDescriptor yX6_valley.desc).map (fun d => d.parameters.length) = some 0 := by decide +kernel
theorem hdX6_weightOf : yX6_weightOf.cls = RX6 ∧ yX6_weightOf.cls ≠ "java/lang/invoke/MethodHandle" ∧ yX6_weightOf.cls ≠ "java/lang/invoke/VarHandle" ∧ (parseMethodDescriptor yX6_weightOf.desc).map (fun d => d.parameters.length) = some 2 := by decide +kernel
theorem hdX6_who : yX6_who.cls = RX6 ∧ yX6_who.cls ≠ "java/lang/invoke/MethodHandle" ∧ yX6_who.cls ≠ "java/lang/invoke/VarHandle" ∧ (parseMethodDescriptor yX6_who.desc).map (fun d => d.parameters.length) = some 3 := by decide +kernel
theorem hdX7_areWords : yX7_areWords.cls ≠ "java/lang/invoke/MethodHandle" ∧ yX7_areWords.cls ≠ "java/lang/invoke/VarHandle" ∧ (parseMethodDescriptor yX7_areWords.desc).map (fun d => d.parameters.length) = some 3 := by decide +kernel
theorem hdX7_ask : yX7_ask.cls = RX7 ∧ yX7_ask.cls ≠ "java/lang/invoke/MethodHandle" ∧ yX7_ask.cls ≠ "java/lang/invoke/VarHandle" ∧ (parseMethodDescriptor yX7_ask.desc).map (fun d => d.parameters.length) = some 3 := by decide +kernel
theorem hdX7_back : yX7_back.cls = RX7 ∧ yX7_back.cls ≠ "java/lang/invoke/MethodHandle" ∧ yX7_back.cls ≠ "java/lang/invoke/VarHandle" ∧ (parseMethodDescriptor yX7_back.desc).map (fun d => d.parameters.length) = some 1 := by decide +kernel
theorem hdX7_bitsIn : yX7_bitsIn.cls ≠ "java/lang/invoke/MethodHandle" ∧ yX7_bitsIn.cls ≠ "java/lang/invoke/VarHandle" ∧ (parseMethodDescriptor yX7_bitsIn.desc).map (fun d => d.parameters.length) = some 1 := by decide +kernel
theorem hdX7_burns : yX7_burns.cls = RX7 ∧ yX7_burns.cls ≠ "java/lang/invoke/MethodHandle" ∧ yX7_burns.cls ≠ "java/lang/invoke/VarHandle" ∧ (parseMethodDescriptor yX7_burns.desc).map (fun d => d.parameters.length) = some 1 := by decide +kernel
theorem hdX7_canCook : yX7_canCook.cls = RX7 ∧ yX7_canCook.cls ≠ "java/lang/invoke/MethodHandle" ∧ yX7_canCook.cls ≠ "java/lang/invoke/VarHandle" ∧ (parseMethodDescriptor yX7_canCook.desc).map (fun d => d.parameters.length) = some 2 := by decide +kernel
theorem hdX7_chain : yX7_chain.cls = RX7 ∧ yX7_chain.cls ≠ "java/lang/invoke/MethodHandle" ∧ yX7_chain.cls ≠ "java/lang/invoke/VarHandle" ∧ (parseMethodDescriptor yX7_chain.desc).map (fun d => d.parameters.length) = some 3 := by decide +kernel
theorem hdX7_clear : yX7_clear.cls = RX7 ∧ yX7_clear.cls ≠ "java/lang/invoke/MethodHandle" ∧ yX7_clear.cls ≠ "java/lang/invoke/VarHandle" ∧ (parseMethodDescriptor yX7_clear.desc).map (fun d => d.parameters.length) = some 0 := by decide +kernel
theorem hdX7_code : yX7_code.cls = RX7 ∧ yX7_code.cls ≠ "java/lang/invoke/MethodHandle" ∧ yX7_code.cls ≠ "java/lang/invoke/VarHandle" ∧ (parseMethodDescriptor yX7_code.desc).map (fun d => d.parameters.length) = some 3 := by decide +kernel
theorem hdX7_common : yX7_common.cls ≠ "java/lang/invoke/MethodHandle" ∧ yX7_common.cls ≠ "java/lang/invoke/VarHandle" ∧ (parseMethodDescriptor yX7_common.desc).map (fun d => d.parameters.length) = some 2 := by decide +kernel
theorem hdX7_cook : yX7_cook.cls = RX7 ∧ yX7_cook.cls ≠ "java/lang/invoke/MethodHandle" ∧ yX7_cook.cls ≠ "java/lang/invoke/VarHandle" ∧ (parseMethodDescriptor yX7_cook.desc).map (fun d => d.parameters.length) = some 2 := by decide +kernel
theorem hdX7_copy : yX7_copy.cls = RX7 ∧ yX7_copy.cls ≠ "java/lang/invoke/MethodHandle" ∧ yX7_copy.cls ≠ "java/lang/invoke/VarHandle" ∧ (parseMethodDescriptor yX7_copy.desc).map (fun d => d.parameters.length) = some 2 := by decide +kernel
theorem hdX7_count : yX7_count.cls = RX7 ∧ yX7_count.cls ≠ "java/lang/invoke/MethodHandle" ∧ yX7_count.cls ≠ "java/lang/invoke/VarHandle" ∧ (parseMethodDescriptor yX7_count.desc).map (fun d => d.parameters.length) = some 1 := by decide +kernel
theorem hdX7_days : yX7_days.cls = RX7 ∧ yX7_days.cls ≠ "java/lang/invoke/MethodHandle" ∧ yX7_days.cls ≠ "java/lang/invoke/VarHandle" ∧ (parseMethodDescriptor yX7_days.desc).map (fun d => d.parameters.length) = some 1 := by decide +kernel
theorem hdX7_dish : yX7_dish.cls = RX7 ∧ yX7_dish.cls ≠ "java/lang/invoke/MethodHandle" ∧ yX7_dish.cls ≠ "java/lang/invoke/VarHandle" ∧ (parseMethodDescriptor yX7_dish.desc).map (fun d => d.parameters.length) = some 2 := by decide +kernel
theorem hdX7_drawn : yX7_drawn.cls = RX7 ∧ yX7_drawn.cls ≠ "java/lang/invoke/MethodHandle" ∧ yX7_drawn.cls ≠ "java/lang/invoke/VarHandle" ∧ (parseMethodDescriptor yX7_drawn.desc).map (fun d => d.parameters.length) = some 1 := by decide +kernel
theorem hdX7_due : yX7_due.cls = RX7 ∧ yX7_due.cls ≠ "java/lang/invoke/MethodHandle" ∧ yX7_due.cls ≠ "java/lang/invoke/VarHandle" ∧ (parseMethodDescriptor yX7_due.desc).map (fun d => d.parameters.length) = some 1 := by decide +kernel
theorem hdX7_feast : yX7_feast.cls = RX7 ∧ yX7_feast.cls ≠ "java/lang/invoke/MethodHandle" ∧ yX7_feast.cls ≠ "java/lang/invoke/VarHandle" ∧ (parseMethodDescriptor yX7_feast.desc).map (fun d => d.parameters.length) = some 2 := by decide +kernel
theorem hdX7_fog : yX7_fog.cls = RX7 ∧ yX7_fog.cls ≠ "java/lang/invoke/MethodHandle" ∧ yX7_fog.cls ≠ "java/lang/invoke/VarHandle" ∧ (parseMethodDescriptor yX7_fog.desc).map (fun d => d.parameters.length) = some 1 := by decide +kernel
theorem hdX7_gives : yX7_gives.cls = RX7 ∧ yX7_gives.cls ≠ "java/lang/invoke/MethodHandle" ∧ yX7_gives.cls ≠ "java/lang/invoke/VarHandle" ∧ (parseMethodDescriptor yX7_gives.desc).map (fun d => d.parameters.length) = some 4 := by decide +kernel
theorem hdX7_hasAll : yX7_hasAll.cls = RX7 ∧ yX7_hasAll.cls ≠ "java/lang/invoke/MethodHandle" ∧ yX7_hasAll.cls ≠ "java/lang/invoke/VarHandle" ∧ (parseMethodDescriptor yX7_hasAll.desc).map (fun d => d.parameters.length) = some 1 := by decide +kernel
theorem hdX7_here : yX7_here.cls = RX7 ∧ yX7_here.cls ≠ "java/lang/invoke/MethodHandle" ∧ yX7_here.cls ≠ "java/lang/invoke/VarHandle" ∧ (parseMethodDescriptor yX7_here.desc).map (fun d => d.parameters.length) = some 0 := by decide +kernel
theorem hdX7_house : yX7_house.cls = RX7 ∧ yX7_house.cls ≠ "java/lang/invoke/MethodHandle" ∧ yX7_house.cls ≠ "java/lang/invoke/VarHandle" ∧ (parseMethodDescriptor yX7_house.desc).map (fun d => d.parameters.length) = some 2 := by decide +kernel
theorem hdX7_in : yX7_in.cls ≠ "java/lang/invoke/MethodHandle" ∧ yX7_in.cls ≠ "java/lang/invoke/VarHandle" ∧ (parseMethodDescriptor yX7_in.desc).map (fun d => d.parameters.length) = some 3 := by decide +kernel
theorem hdX7_isDish : yX7_isDish.cls = RX7 ∧ yX7_isDish.cls ≠ "java/lang/invoke/MethodHandle" ∧ yX7_isDish.cls ≠ "java/lang/invoke/VarHandle" ∧ (parseMethodDescriptor yX7_isDish.desc).map (fun d => d.parameters.length) = some 1 := by decide +kernel
theorem hdX7_isHouse : yX7_isHouse.cls = RX7 ∧ yX7_isHouse.cls ≠ "java/lang/invoke/MethodHandle" ∧ yX7_isHouse.cls ≠ "java/lang/invoke/VarHandle" ∧ (parseMethodDescriptor yX7_isHouse.desc).map (fun d => d.parameters.length) = some 1 := by decide +kernel
theorem hdX7_isRow : yX7_isRow.cls = RX7 ∧ yX7_isRow.cls ≠ "java/lang/invoke/MethodHandle" ∧ yX7_isRow.cls ≠ "java/lang/invoke/VarHandle" ∧ (parseMethodDescriptor yX7_isRow.desc).map (fun d => d.parameters.length) = some 2 := by decide +kernel
theorem hdX7_isSmoke : yX7_isSmoke.cls ≠ "java/lang/invoke/MethodHandle" ∧ yX7_isSmoke.cls ≠ "java/lang/invoke/VarHandle" ∧ (parseMethodDescriptor yX7_isSmoke.desc).map (fun d => d.parameters.length) = some 1 := by decide +kernel
theorem hdX7_keep : yX7_keep.cls = RX7 ∧ yX7_keep.cls ≠ "java/lang/invoke/MethodHandle" ∧ yX7_keep.cls ≠ "java/lang/invoke/VarHandle" ∧ (parseMethodDescriptor yX7_keep.desc).map (fun d => d.parameters.length) = some 1 := by decide +kernel
theorem hdX7_leastOf : yX7_leastOf.cls = RX7 ∧ yX7_leastOf.cls ≠ "java/lang/invoke/MethodHandle" ∧ yX7_leastOf.cls ≠ "java/lang/invoke/VarHandle" ∧ (parseMethodDescriptor yX7_leastOf.desc).map (fun d => d.parameters.length) = some 1 := by decide +kernel
theorem hdX7_lot : yX7_lot.cls = RX7 ∧ yX7_lot.cls ≠ "java/lang/invoke/MethodHandle" ∧ yX7_lot.cls ≠ "java/lang/invoke/VarHandle" ∧ (parseMethodDescriptor yX7_lot.desc).map (fun d => d.parameters.length) = some 1 := by decide +kernel
theorem hdX7_mark : yX7_mark.cls = RX7 ∧ yX7_mark.cls ≠ "java/lang/invoke/MethodHandle" ∧ yX7_mark.cls ≠ "java/lang/invoke/VarHandle" ∧ (parseMethodDescriptor yX7_mark.desc).map (fun d => d.parameters.length) = some 2 := by decide +kernel
theorem hdX7_meaning : yX7_meaning.cls ≠ "java/lang/invoke/MethodHandle" ∧ yX7_meaning.cls ≠ "java/lang/invoke/VarHandle" ∧ (parseMethodDescriptor yX7_meaning.desc).map (fun d => d.parameters.length) = some 1 := by decide +kernel
theorem hdX7_means : yX7_means.cls = RX7 ∧ yX7_means.cls ≠ "java/lang/invoke/MethodHandle" ∧ yX7_means.cls ≠ "java/lang/invoke/VarHandle" ∧ (parseMethodDescriptor yX7_means.desc).map (fun d => d.parameters.length) = some 1 := by decide +kernel
theorem hdX7_meant : yX7_meant.cls = RX7 ∧ yX7_meant.cls ≠ "java/lang/invoke/MethodHandle" ∧ yX7_meant.cls ≠ "java/lang/invoke/VarHandle" ∧ (parseMethodDescriptor yX7_meant.desc).map (fun d => d.parameters.length) = some 1 := by decide +kernel
theorem hdX7_nearest : yX7_nearest.cls = RX7 ∧ yX7_nearest.cls ≠ "java/lang/invoke/MethodHandle" ∧ yX7_nearest.cls ≠ "java/lang/invoke/VarHandle" ∧ (parseMethodDescriptor yX7_nearest.desc).map (fun d => d.parameters.length) = some 4 := by decide +kernel
theorem hdX7_next : yX7_next.cls = RX7 ∧ yX7_next.cls ≠ "java/lang/invoke/MethodHandle" ∧ yX7_next.cls ≠ "java/lang/invoke/VarHandle" ∧ (parseMethodDescriptor yX7_next.desc).map (fun d => d.parameters.length) = some 0 := by decide +kernel
theorem hdX7_nextSupper : yX7_nextSupper.cls = RX7 ∧ yX7_nextSupper.cls ≠ "java/lang/invoke/MethodHandle" ∧ yX7_nextSupper.cls ≠ "java/lang/invoke/VarHandle" ∧ (parseMethodDescriptor yX7_nextSupper.desc).map (fun d => d.parameters.length) = some 0 := by decide +kernel
theorem hdX7_number : yX7_number.cls = RX7 ∧ yX7_number.cls ≠ "java/lang/invoke/MethodHandle" ∧ yX7_number.cls ≠ "java/lang/invoke/VarHandle" ∧ (parseMethodDescriptor yX7_number.desc).map (fun d => d.parameters.length) = some 1 := by decide +kernel
theorem hdX7_plume : yX7_plume.cls = RX7 ∧ yX7_plume.cls ≠ "java/lang/invoke/MethodHandle" ∧ yX7_plume.cls ≠ "java/lang/invoke/VarHandle" ∧ (parseMethodDescriptor yX7_plume.desc).map (fun d => d.parameters.length) = some 2 := by decide +kernel
theorem hdX7_readAs : yX7_readAs.cls = RX7 ∧ yX7_readAs.cls ≠ "java/lang/invoke/MethodHandle" ∧ yX7_readAs.cls ≠ "java/lang/invoke/VarHandle" ∧ (parseMethodDescriptor yX7_readAs.desc).map (fun d => d.parameters.length) = some 2 := by decide +kernel
theorem hdX7_readItem : yX7_readItem.cls = RX7 ∧ yX7_readItem.cls ≠ "java/lang/invoke/MethodHandle" ∧ yX7_readItem.cls ≠ "java/lang/invoke/VarHandle" ∧ (parseMethodDescriptor yX7_readItem.desc).map (fun d => d.parameters.length) = some 0 := by decide +kernel
theorem hdX7_reads : yX7_reads.cls = RX7 ∧ yX7_reads.cls ≠ "java/lang/invoke/MethodHandle" ∧ yX7_reads.cls ≠ "java/lang/invoke/VarHandle" ∧ (parseMethodDescriptor yX7_reads.desc).map (fun d => d.parameters.length) = some 2 := by decide +kernel
theorem hdX7_saidBy : yX7_saidBy.cls = RX7 ∧ yX7_saidBy.cls ≠ "java/lang/invoke/MethodHandle" ∧ yX7_saidBy.cls ≠ "java/lang/invoke/VarHandle" ∧ (parseMethodDescriptor yX7_saidBy.desc).map (fun d => d.parameters.length) = some 3 := by decide +kernel
theorem hdX7_says : yX7_says.cls = RX7 ∧ yX7_says.cls ≠ "java/lang/invoke/MethodHandle" ∧ yX7_says.cls ≠ "java/lang/invoke/VarHandle" ∧ (parseMethodDescriptor yX7_says.desc).map (fun d => d.parameters.length) = some 5 := by decide +kernel
theorem hdX7_silent : yX7_silent.cls = RX7 ∧ yX7_silent.cls ≠ "java/lang/invoke/MethodHandle" ∧ yX7_silent.cls ≠ "java/lang/invoke/VarHandle" ∧ (parseMethodDescriptor yX7_silent.desc).map (fun d => d.parameters.length) = some 1 := by decide +kernel
theorem hdX7_storeOf : yX7_storeOf.cls = RX7 ∧ yX7_storeOf.cls ≠ "java/lang/invoke/MethodHandle" ∧ yX7_storeOf.cls ≠ "java/lang/invoke/VarHandle" ∧ (parseMethodDescriptor yX7_storeOf.desc).map (fun d => d.parameters.length) = some 1 := by decide +kernel
theorem hdX7_trace : yX7_trace.cls = RX7 ∧ yX7_trace.cls ≠ "java/lang/invoke/MethodHandle" ∧ yX7_trace.cls ≠ "java/lang/invoke/VarHandle" ∧ (parseMethodDescriptor yX7_trace.desc).map (fun d => d.parameters.length) = some 0 := by decide +kernel
theorem hdX7_type : yX7_type.cls = RX7 ∧ yX7_type.cls ≠ "java/lang/invoke/MethodHandle" ∧ yX7_type.cls ≠ "java/lang/invoke/VarHandle" ∧ (parseMethodDescriptor yX7_type.desc).map (fun d => d.parameters.length) = some 2 := by decide +kernel
theorem hdX7_undo : yX7_undo.cls = RX7 ∧ yX7_undo.cls ≠ "java/lang/invoke/MethodHandle" ∧ yX7_undo.cls ≠ "java/lang/invoke/VarHandle" ∧ (parseMethodDescriptor yX7_undo.desc).map (fun d => d.parameters.length) = some 0 := by decide +kernel
theorem hdX7_unitsFor : yX7_unitsFor.cls = RX7 ∧ yX7_unitsFor.cls ≠ "java/lang/invoke/MethodHandle" ∧ yX7_unitsFor.cls ≠ "java/lang/invoke/VarHandle" ∧ (parseMethodDescriptor yX7_unitsFor.desc).map (fun d => d.parameters.length) = some 2 := by decide +kernel
theorem hdX7_unitsOf : yX7_unitsOf.cls = RX7 ∧ yX7_unitsOf.cls ≠ "java/lang/invoke/MethodHandle" ∧ yX7_unitsOf.cls ≠ "java/lang/invoke/VarHandle" ∧ (parseMethodDescriptor yX7_unitsOf.desc).map (fun d => d.parameters.length) = some 1 := by decide +kernel
theorem hdX7_valley : yX7_valley.cls = RX7 ∧ yX7_valley.cls ≠ "java/lang/invoke/MethodHandle" ∧ yX7_valley.cls ≠ "java/lang/invoke/VarHandle" ∧ (parseMethodDescriptor yX7_valley.desc).map (fun d => d.parameters.length) = some 0 := by decide +kernel
theorem hdX7_who : yX7_who.cls = RX7 ∧ yX7_who.cls ≠ "java/lang/invoke/MethodHandle" ∧ yX7_who.cls ≠ "java/lang/invoke/VarHandle" ∧ (parseMethodDescriptor yX7_who.desc).map (fun d => d.parameters.length) = some 3 := by decide +kernel
