section
-- ===== PART A: goes FIRST, ahead of the names: the tables' words, and 'selects' of the private methods out of them =====
/-- a private method of a class that the tables say can be made, by its rows of tables_1 -/
def lw_okq (q : MethodName × Nat) : Prop := (q.1.cls ≠ "java/lang/invoke/MethodHandle" ∧ q.1.cls ≠ "java/lang/invoke/VarHandle") ∧ Cond.instantiable q.1.cls q.2 ∈ tables_1 ∧ Cond.privateMethod q.1 ∈ tables_1 ∧ Cond.instanceMethod q.1 ∈ tables_1
theorem lw_p0 : lw_okq (⟨"SmokeTalk$Text", "readNumber", "()I"⟩, 6) := ⟨⟨by decide +kernel, by decide +kernel⟩, List.mem_of_getElem? (i := 24) (by decide +kernel), List.mem_of_getElem? (i := 256) (by decide +kernel), List.mem_of_getElem? (i := 257) (by decide +kernel)⟩
theorem lw_p1 : lw_okq (⟨"SmokeTalk$Text", "readName", "()I"⟩, 6) := ⟨⟨by decide +kernel, by decide +kernel⟩, List.mem_of_getElem? (i := 24) (by decide +kernel), List.mem_of_getElem? (i := 263) (by decide +kernel), List.mem_of_getElem? (i := 264) (by decide +kernel)⟩
theorem lw_p2 : lw_okq (⟨"SmokeTalk$Text", "spells", "(Ljava/lang/String;)Z"⟩, 6) := ⟨⟨by decide +kernel, by decide +kernel⟩, List.mem_of_getElem? (i := 24) (by decide +kernel), List.mem_of_getElem? (i := 268) (by decide +kernel), List.mem_of_getElem? (i := 269) (by decide +kernel)⟩
theorem lw_p3 : lw_okq (⟨"SmokeTalk$Telling", "readItem", "(LSmokeTalk$Text;)Z"⟩, 4) := ⟨⟨by decide +kernel, by decide +kernel⟩, List.mem_of_getElem? (i := 54) (by decide +kernel), List.mem_of_getElem? (i := 322) (by decide +kernel), List.mem_of_getElem? (i := 323) (by decide +kernel)⟩
theorem lw_p4 : lw_okq (⟨"SmokeTalk$Telling", "mayBegin", "(I)Z"⟩, 4) := ⟨⟨by decide +kernel, by decide +kernel⟩, List.mem_of_getElem? (i := 54) (by decide +kernel), List.mem_of_getElem? (i := 326) (by decide +kernel), List.mem_of_getElem? (i := 327) (by decide +kernel)⟩
theorem lw_p5 : lw_okq (⟨"SmokeTalk$Telling", "draft", "(I)V"⟩, 4) := ⟨⟨by decide +kernel, by decide +kernel⟩, List.mem_of_getElem? (i := 54) (by decide +kernel), List.mem_of_getElem? (i := 337) (by decide +kernel), List.mem_of_getElem? (i := 338) (by decide +kernel)⟩
theorem lw_p6 : lw_okq (⟨"SmokeTalk", "couldCook", "(II)Z"⟩, 10) := ⟨⟨by decide +kernel, by decide +kernel⟩, List.mem_of_getElem? (i := 16) (by decide +kernel), List.mem_of_getElem? (i := 391) (by decide +kernel), List.mem_of_getElem? (i := 392) (by decide +kernel)⟩
theorem lw_p7 : lw_okq (⟨"SmokeTalk$Speech", "compare", "(I)V"⟩, 6) := ⟨⟨by decide +kernel, by decide +kernel⟩, List.mem_of_getElem? (i := 151) (by decide +kernel), List.mem_of_getElem? (i := 456) (by decide +kernel), List.mem_of_getElem? (i := 457) (by decide +kernel)⟩
theorem lw_p8 : lw_okq (⟨"SmokeTalk", "weightOf", "(II)I"⟩, 10) := ⟨⟨by decide +kernel, by decide +kernel⟩, List.mem_of_getElem? (i := 16) (by decide +kernel), List.mem_of_getElem? (i := 532) (by decide +kernel), List.mem_of_getElem? (i := 533) (by decide +kernel)⟩
theorem lw_p9 : lw_okq (⟨"SmokeTalk$Menu", "standsOff", "(III)Z"⟩, 5) := ⟨⟨by decide +kernel, by decide +kernel⟩, List.mem_of_getElem? (i := 60) (by decide +kernel), List.mem_of_getElem? (i := 558) (by decide +kernel), List.mem_of_getElem? (i := 559) (by decide +kernel)⟩
theorem lw_p10 : lw_okq (⟨"SmokeTalk", "markOfDish", "(I)I"⟩, 10) := ⟨⟨by decide +kernel, by decide +kernel⟩, List.mem_of_getElem? (i := 16) (by decide +kernel), List.mem_of_getElem? (i := 600) (by decide +kernel), List.mem_of_getElem? (i := 601) (by decide +kernel)⟩
theorem lw_p11 : lw_okq (⟨"SmokeTalk", "markOfStew", "(I)I"⟩, 10) := ⟨⟨by decide +kernel, by decide +kernel⟩, List.mem_of_getElem? (i := 16) (by decide +kernel), List.mem_of_getElem? (i := 604) (by decide +kernel), List.mem_of_getElem? (i := 605) (by decide +kernel)⟩
theorem lw_p12 : lw_okq (⟨"SmokeTalk", "markOfRoast", "(I)I"⟩, 10) := ⟨⟨by decide +kernel, by decide +kernel⟩, List.mem_of_getElem? (i := 16) (by decide +kernel), List.mem_of_getElem? (i := 609) (by decide +kernel), List.mem_of_getElem? (i := 610) (by decide +kernel)⟩
theorem lw_p13 : lw_okq (⟨"SmokeTalk", "markOfBrides", "(I)I"⟩, 10) := ⟨⟨by decide +kernel, by decide +kernel⟩, List.mem_of_getElem? (i := 16) (by decide +kernel), List.mem_of_getElem? (i := 614) (by decide +kernel), List.mem_of_getElem? (i := 615) (by decide +kernel)⟩
theorem lw_p14 : lw_okq (⟨"SmokeTalk", "markOfPoor", "(I)I"⟩, 10) := ⟨⟨by decide +kernel, by decide +kernel⟩, List.mem_of_getElem? (i := 16) (by decide +kernel), List.mem_of_getElem? (i := 618) (by decide +kernel), List.mem_of_getElem? (i := 619) (by decide +kernel)⟩
theorem lw_p15 : lw_okq (⟨"SmokeTalk", "markOfBurnt", "(I)I"⟩, 10) := ⟨⟨by decide +kernel, by decide +kernel⟩, List.mem_of_getElem? (i := 16) (by decide +kernel), List.mem_of_getElem? (i := 623) (by decide +kernel), List.mem_of_getElem? (i := 624) (by decide +kernel)⟩
def lw_privs_1 : List (MethodName × Nat) := [(⟨"SmokeTalk$Text", "readNumber", "()I"⟩, 6), (⟨"SmokeTalk$Text", "readName", "()I"⟩, 6), (⟨"SmokeTalk$Text", "spells", "(Ljava/lang/String;)Z"⟩, 6), (⟨"SmokeTalk$Telling", "readItem", "(LSmokeTalk$Text;)Z"⟩, 4), (⟨"SmokeTalk$Telling", "mayBegin", "(I)Z"⟩, 4), (⟨"SmokeTalk$Telling", "draft", "(I)V"⟩, 4), (⟨"SmokeTalk", "couldCook", "(II)Z"⟩, 10), (⟨"SmokeTalk$Speech", "compare", "(I)V"⟩, 6), (⟨"SmokeTalk", "weightOf", "(II)I"⟩, 10), (⟨"SmokeTalk$Menu", "standsOff", "(III)Z"⟩, 5), (⟨"SmokeTalk", "markOfDish", "(I)I"⟩, 10), (⟨"SmokeTalk", "markOfStew", "(I)I"⟩, 10), (⟨"SmokeTalk", "markOfRoast", "(I)I"⟩, 10), (⟨"SmokeTalk", "markOfBrides", "(I)I"⟩, 10), (⟨"SmokeTalk", "markOfPoor", "(I)I"⟩, 10), (⟨"SmokeTalk", "markOfBurnt", "(I)I"⟩, 10)]
theorem lw_r1 : ∀ q ∈ lw_privs_1, lw_okq q := List.forall_mem_cons.mpr ⟨lw_p0, List.forall_mem_cons.mpr ⟨lw_p1, List.forall_mem_cons.mpr ⟨lw_p2, List.forall_mem_cons.mpr ⟨lw_p3, List.forall_mem_cons.mpr ⟨lw_p4, List.forall_mem_cons.mpr ⟨lw_p5, List.forall_mem_cons.mpr ⟨lw_p6, List.forall_mem_cons.mpr ⟨lw_p7, List.forall_mem_cons.mpr ⟨lw_p8, List.forall_mem_cons.mpr ⟨lw_p9, List.forall_mem_cons.mpr ⟨lw_p10, List.forall_mem_cons.mpr ⟨lw_p11, List.forall_mem_cons.mpr ⟨lw_p12, List.forall_mem_cons.mpr ⟨lw_p13, List.forall_mem_cons.mpr ⟨lw_p14, List.forall_mem_cons.mpr ⟨lw_p15, fun _ h => absurd h List.not_mem_nil⟩⟩⟩⟩⟩⟩⟩⟩⟩⟩⟩⟩⟩⟩⟩⟩
theorem lw_p16 : lw_okq (⟨"SmokeTalk", "imageOf", "(I)LSmokeTalk$Suppers;"⟩, 10) := ⟨⟨by decide +kernel, by decide +kernel⟩, List.mem_of_getElem? (i := 16) (by decide +kernel), List.mem_of_getElem? (i := 632) (by decide +kernel), List.mem_of_getElem? (i := 633) (by decide +kernel)⟩
theorem lw_p17 : lw_okq (⟨"SmokeTalkModel", "next", "()V"⟩, 24) := ⟨⟨by decide +kernel, by decide +kernel⟩, List.mem_of_getElem? (i := 648) (by decide +kernel), List.mem_of_getElem? (i := 744) (by decide +kernel), List.mem_of_getElem? (i := 745) (by decide +kernel)⟩
theorem lw_p18 : lw_okq (⟨"SmokeTalkModel", "here", "()I"⟩, 24) := ⟨⟨by decide +kernel, by decide +kernel⟩, List.mem_of_getElem? (i := 648) (by decide +kernel), List.mem_of_getElem? (i := 748) (by decide +kernel), List.mem_of_getElem? (i := 749) (by decide +kernel)⟩
theorem lw_p19 : lw_okq (⟨"SmokeTalkModel", "readItem", "()V"⟩, 24) := ⟨⟨by decide +kernel, by decide +kernel⟩, List.mem_of_getElem? (i := 648) (by decide +kernel), List.mem_of_getElem? (i := 755) (by decide +kernel), List.mem_of_getElem? (i := 756) (by decide +kernel)⟩
theorem lw_p20 : lw_okq (⟨"SmokeTalkModel", "due", "(Z)I"⟩, 24) := ⟨⟨by decide +kernel, by decide +kernel⟩, List.mem_of_getElem? (i := 648) (by decide +kernel), List.mem_of_getElem? (i := 759) (by decide +kernel), List.mem_of_getElem? (i := 760) (by decide +kernel)⟩
theorem lw_p21 : lw_okq (⟨"SmokeTalkModel", "number", "(I)I"⟩, 24) := ⟨⟨by decide +kernel, by decide +kernel⟩, List.mem_of_getElem? (i := 648) (by decide +kernel), List.mem_of_getElem? (i := 763) (by decide +kernel), List.mem_of_getElem? (i := 764) (by decide +kernel)⟩
theorem lw_p22 : lw_okq (⟨"SmokeTalkModel", "isHouse", "(I)Z"⟩, 24) := ⟨⟨by decide +kernel, by decide +kernel⟩, List.mem_of_getElem? (i := 648) (by decide +kernel), List.mem_of_getElem? (i := 771) (by decide +kernel), List.mem_of_getElem? (i := 772) (by decide +kernel)⟩
theorem lw_p23 : lw_okq (⟨"SmokeTalkModel", "storeOf", "(I)I"⟩, 24) := ⟨⟨by decide +kernel, by decide +kernel⟩, List.mem_of_getElem? (i := 648) (by decide +kernel), List.mem_of_getElem? (i := 775) (by decide +kernel), List.mem_of_getElem? (i := 776) (by decide +kernel)⟩
theorem lw_p24 : lw_okq (⟨"SmokeTalkModel", "isDish", "(I)Z"⟩, 24) := ⟨⟨by decide +kernel, by decide +kernel⟩, List.mem_of_getElem? (i := 648) (by decide +kernel), List.mem_of_getElem? (i := 783) (by decide +kernel), List.mem_of_getElem? (i := 784) (by decide +kernel)⟩
theorem lw_p25 : lw_okq (⟨"SmokeTalkModel", "unitsOf", "(I)I"⟩, 24) := ⟨⟨by decide +kernel, by decide +kernel⟩, List.mem_of_getElem? (i := 648) (by decide +kernel), List.mem_of_getElem? (i := 787) (by decide +kernel), List.mem_of_getElem? (i := 788) (by decide +kernel)⟩
theorem lw_p26 : lw_okq (⟨"SmokeTalkModel", "canCook", "(II)Z"⟩, 24) := ⟨⟨by decide +kernel, by decide +kernel⟩, List.mem_of_getElem? (i := 648) (by decide +kernel), List.mem_of_getElem? (i := 795) (by decide +kernel), List.mem_of_getElem? (i := 796) (by decide +kernel)⟩
theorem lw_p27 : lw_okq (⟨"SmokeTalkModel", "ask", "(III)V"⟩, 24) := ⟨⟨by decide +kernel, by decide +kernel⟩, List.mem_of_getElem? (i := 648) (by decide +kernel), List.mem_of_getElem? (i := 826) (by decide +kernel), List.mem_of_getElem? (i := 827) (by decide +kernel)⟩
theorem lw_p28 : lw_okq (⟨"SmokeTalkModel", "unitsFor", "(II)I"⟩, 24) := ⟨⟨by decide +kernel, by decide +kernel⟩, List.mem_of_getElem? (i := 648) (by decide +kernel), List.mem_of_getElem? (i := 830) (by decide +kernel), List.mem_of_getElem? (i := 831) (by decide +kernel)⟩
theorem lw_p29 : lw_okq (⟨"SmokeTalkModel", "isRow", "(II)Z"⟩, 24) := ⟨⟨by decide +kernel, by decide +kernel⟩, List.mem_of_getElem? (i := 648) (by decide +kernel), List.mem_of_getElem? (i := 834) (by decide +kernel), List.mem_of_getElem? (i := 835) (by decide +kernel)⟩
theorem lw_p30 : lw_okq (⟨"SmokeTalkModel", "hasAll", "(I)Z"⟩, 24) := ⟨⟨by decide +kernel, by decide +kernel⟩, List.mem_of_getElem? (i := 648) (by decide +kernel), List.mem_of_getElem? (i := 838) (by decide +kernel), List.mem_of_getElem? (i := 839) (by decide +kernel)⟩
theorem lw_p31 : lw_okq (⟨"SmokeTalkModel", "readAs", "(II)I"⟩, 24) := ⟨⟨by decide +kernel, by decide +kernel⟩, List.mem_of_getElem? (i := 648) (by decide +kernel), List.mem_of_getElem? (i := 856) (by decide +kernel), List.mem_of_getElem? (i := 857) (by decide +kernel)⟩
def lw_privs_2 : List (MethodName × Nat) := [(⟨"SmokeTalk", "imageOf", "(I)LSmokeTalk$Suppers;"⟩, 10), (⟨"SmokeTalkModel", "next", "()V"⟩, 24), (⟨"SmokeTalkModel", "here", "()I"⟩, 24), (⟨"SmokeTalkModel", "readItem", "()V"⟩, 24), (⟨"SmokeTalkModel", "due", "(Z)I"⟩, 24), (⟨"SmokeTalkModel", "number", "(I)I"⟩, 24), (⟨"SmokeTalkModel", "isHouse", "(I)Z"⟩, 24), (⟨"SmokeTalkModel", "storeOf", "(I)I"⟩, 24), (⟨"SmokeTalkModel", "isDish", "(I)Z"⟩, 24), (⟨"SmokeTalkModel", "unitsOf", "(I)I"⟩, 24), (⟨"SmokeTalkModel", "canCook", "(II)Z"⟩, 24), (⟨"SmokeTalkModel", "ask", "(III)V"⟩, 24), (⟨"SmokeTalkModel", "unitsFor", "(II)I"⟩, 24), (⟨"SmokeTalkModel", "isRow", "(II)Z"⟩, 24), (⟨"SmokeTalkModel", "hasAll", "(I)Z"⟩, 24), (⟨"SmokeTalkModel", "readAs", "(II)I"⟩, 24)]
theorem lw_r2 : ∀ q ∈ lw_privs_2, lw_okq q := List.forall_mem_cons.mpr ⟨lw_p16, List.forall_mem_cons.mpr ⟨lw_p17, List.forall_mem_cons.mpr ⟨lw_p18, List.forall_mem_cons.mpr ⟨lw_p19, List.forall_mem_cons.mpr ⟨lw_p20, List.forall_mem_cons.mpr ⟨lw_p21, List.forall_mem_cons.mpr ⟨lw_p22, List.forall_mem_cons.mpr ⟨lw_p23, List.forall_mem_cons.mpr ⟨lw_p24, List.forall_mem_cons.mpr ⟨lw_p25, List.forall_mem_cons.mpr ⟨lw_p26, List.forall_mem_cons.mpr ⟨lw_p27, List.forall_mem_cons.mpr ⟨lw_p28, List.forall_mem_cons.mpr ⟨lw_p29, List.forall_mem_cons.mpr ⟨lw_p30, List.forall_mem_cons.mpr ⟨lw_p31, fun _ h => absurd h List.not_mem_nil⟩⟩⟩⟩⟩⟩⟩⟩⟩⟩⟩⟩⟩⟩⟩⟩
theorem lw_p32 : lw_okq (⟨"SmokeTalkModel", "meant", "(I)I"⟩, 24) := ⟨⟨by decide +kernel, by decide +kernel⟩, List.mem_of_getElem? (i := 648) (by decide +kernel), List.mem_of_getElem? (i := 864) (by decide +kernel), List.mem_of_getElem? (i := 865) (by decide +kernel)⟩
theorem lw_p33 : lw_okq (⟨"SmokeTalkModel", "leastOf", "(I)I"⟩, 24) := ⟨⟨by decide +kernel, by decide +kernel⟩, List.mem_of_getElem? (i := 648) (by decide +kernel), List.mem_of_getElem? (i := 873) (by decide +kernel), List.mem_of_getElem? (i := 874) (by decide +kernel)⟩
theorem lw_p34 : lw_okq (⟨"SmokeTalkModel", "nextSupper", "()I"⟩, 24) := ⟨⟨by decide +kernel, by decide +kernel⟩, List.mem_of_getElem? (i := 648) (by decide +kernel), List.mem_of_getElem? (i := 889) (by decide +kernel), List.mem_of_getElem? (i := 890) (by decide +kernel)⟩
theorem lw_p35 : lw_okq (⟨"SmokeTalkModel", "saidBy", "(III)I"⟩, 24) := ⟨⟨by decide +kernel, by decide +kernel⟩, List.mem_of_getElem? (i := 648) (by decide +kernel), List.mem_of_getElem? (i := 897) (by decide +kernel), List.mem_of_getElem? (i := 898) (by decide +kernel)⟩
theorem lw_p36 : lw_okq (⟨"SmokeTalkModel", "copy", "(II)V"⟩, 24) := ⟨⟨by decide +kernel, by decide +kernel⟩, List.mem_of_getElem? (i := 648) (by decide +kernel), List.mem_of_getElem? (i := 932) (by decide +kernel), List.mem_of_getElem? (i := 933) (by decide +kernel)⟩
def lw_privs_3 : List (MethodName × Nat) := [(⟨"SmokeTalkModel", "meant", "(I)I"⟩, 24), (⟨"SmokeTalkModel", "leastOf", "(I)I"⟩, 24), (⟨"SmokeTalkModel", "nextSupper", "()I"⟩, 24), (⟨"SmokeTalkModel", "saidBy", "(III)I"⟩, 24), (⟨"SmokeTalkModel", "copy", "(II)V"⟩, 24)]
theorem lw_r3 : ∀ q ∈ lw_privs_3, lw_okq q := List.forall_mem_cons.mpr ⟨lw_p32, List.forall_mem_cons.mpr ⟨lw_p33, List.forall_mem_cons.mpr ⟨lw_p34, List.forall_mem_cons.mpr ⟨lw_p35, List.forall_mem_cons.mpr ⟨lw_p36, fun _ h => absurd h List.not_mem_nil⟩⟩⟩⟩⟩
def lw_privs : List (MethodName × Nat) := lw_privs_1 ++ (lw_privs_2 ++ (lw_privs_3))
def lw_tbl : List Cond := k2_sels lw_privs ++ tables_1
theorem lw_privs_ok : ∀ q ∈ lw_privs, lw_okq q := by
  show ∀ q ∈ lw_privs_1 ++ (lw_privs_2 ++ (lw_privs_3)), lw_okq q
  exact List.forall_mem_append.mpr ⟨lw_r1, List.forall_mem_append.mpr ⟨lw_r2, lw_r3⟩⟩
def RX0 : String := "SmokeTalk$Chain"
def TX0 : u_T := fun k => match k with
  | 0 => ("SmokeTalk$Chain", "meant", "[J", true)
  | _ => ("SmokeTalk$Chain", "next", "[J", true)
def tyX0 : Nat → FieldType := fun k => match k with
  | 0 => .array .long
  | _ => .array .long
abbrev wsX00 : List Cond := u_ws RX0 TX0 2
theorem nmX0 : ∀ a, a < 2 → ∀ b, b < 2 → a ≠ b → (TX0 a).2.1 ≠ (TX0 b).2.1 := by decide +kernel
theorem tyX0_ok : ∀ k, k < 2 → parseFieldDescriptor (TX0 k).2.2.1 = some (tyX0 k) := by decide +kernel
abbrev cX0_init : ByteArray := prog_2_method_1_code
def yX0_init : MethodName := ⟨RX0, "<init>", "()V"⟩
abbrev cX0_begin : ByteArray := prog_2_method_2_code
def yX0_begin : MethodName := ⟨RX0, "begin", "(I)V"⟩
abbrev cX0_read : ByteArray := prog_2_method_3_code
def yX0_read : MethodName := ⟨RX0, "read", "(LSmokeTalk$Menu;LSmokeTalk$Suppers;)V"⟩
def RX1 : String := "SmokeTalk$Menu"
def TX1 : u_T := fun k => match k with
  | 0 => ("SmokeTalk$Menu", "needs", "[I", true)
  | 1 => ("SmokeTalk$Menu", "units", "[I", true)
  | 2 => ("SmokeTalk$Menu", "smokes", "[I", true)
  | 3 => ("SmokeTalk$Menu", "words", "[I", true)
  | _ => ("SmokeTalk$Menu", "dishes", "I", false)
def tyX1 : Nat → FieldType := fun k => match k with
  | 0 => .array .int
  | 1 => .array .int
  | 2 => .array .int
  | 3 => .array .int
  | _ => .int
abbrev wsX10 : List Cond := u_ws RX1 TX1 5
theorem nmX1 : ∀ a, a < 5 → ∀ b, b < 5 → a ≠ b → (TX1 a).2.1 ≠ (TX1 b).2.1 := by decide +kernel
theorem tyX1_ok : ∀ k, k < 5 → parseFieldDescriptor (TX1 k).2.2.1 = some (tyX1 k) := by decide +kernel
abbrev cX1_init : ByteArray := prog_3_method_1_code
def yX1_init : MethodName := ⟨RX1, "<init>", "()V"⟩
abbrev cX1_become : ByteArray := prog_3_method_2_code
def yX1_become : MethodName := ⟨RX1, "become", "(LSmokeTalk$Menu;)V"⟩
abbrev cX1_list : ByteArray := prog_3_method_3_code
def yX1_list : MethodName := ⟨RX1, "list", "([I)V"⟩
abbrev cX1_lists : ByteArray := prog_3_method_4_code
def yX1_lists : MethodName := ⟨RX1, "lists", "(I)Z"⟩
abbrev cX1_need : ByteArray := prog_3_method_5_code
def yX1_need : MethodName := ⟨RX1, "need", "(II)I"⟩
abbrev cX1_fits : ByteArray := prog_3_method_6_code
def yX1_fits : MethodName := ⟨RX1, "fits", "(I[I)Z"⟩
abbrev cX1_take : ByteArray := prog_3_method_7_code
def yX1_take : MethodName := ⟨RX1, "take", "(I[I)V"⟩
abbrev cX1_putBack : ByteArray := prog_3_method_8_code
def yX1_putBack : MethodName := ⟨RX1, "putBack", "(I[I)V"⟩
abbrev cX1_leanest : ByteArray := prog_3_method_9_code
def yX1_leanest : MethodName := ⟨RX1, "leanest", "([I)I"⟩
abbrev cX1_leastSaying : ByteArray := prog_3_method_10_code
def yX1_leastSaying : MethodName := ⟨RX1, "leastSaying", "(I)I"⟩
abbrev cX1_meaning : ByteArray := prog_3_method_11_code
def yX1_meaning : MethodName := ⟨RX1, "meaning", "(I)I"⟩
abbrev cX1_smokeOfAll : ByteArray := prog_3_method_12_code
def yX1_smokeOfAll : MethodName := ⟨RX1, "smokeOfAll", "(I)I"⟩
abbrev cX1_anySays : ByteArray := prog_3_method_13_code
def yX1_anySays : MethodName := ⟨RX1, "anySays", "(II)Z"⟩
abbrev cX1_tellsApart : ByteArray := prog_3_method_14_code
def yX1_tellsApart : MethodName := ⟨RX1, "tellsApart", "(III)Z"⟩
abbrev cX1_standsOff : ByteArray := prog_3_method_15_code
def yX1_standsOff : MethodName := ⟨RX1, "standsOff", "(III)Z"⟩
abbrev cX1_holds : ByteArray := prog_3_method_16_code
def yX1_holds : MethodName := ⟨RX1, "holds", "(II)Z"⟩
def RX2 : String := "SmokeTalk$Speech"
def TX2 : u_T := fun k => match k with
  | 0 => ("SmokeTalk$Speech", "row", "[I", true)
  | 1 => ("SmokeTalk$Speech", "chosen", "[I", true)
  | 2 => ("SmokeTalk$Speech", "best", "[I", true)
  | 3 => ("SmokeTalk$Speech", "left", "[I", true)
  | 4 => ("SmokeTalk$Speech", "told", "I", false)
  | _ => ("SmokeTalk$Speech", "fewest", "I", false)
def tyX2 : Nat → FieldType := fun k => match k with
  | 0 => .array .int
  | 1 => .array .int
  | 2 => .array .int
  | 3 => .array .int
  | 4 => .int
  | _ => .int
abbrev wsX20 : List Cond := u_ws RX2 TX2 6
theorem nmX2 : ∀ a, a < 6 → ∀ b, b < 6 → a ≠ b → (TX2 a).2.1 ≠ (TX2 b).2.1 := by decide +kernel
theorem tyX2_ok : ∀ k, k < 6 → parseFieldDescriptor (TX2 k).2.2.1 = some (tyX2 k) := by decide +kernel
abbrev cX2_init : ByteArray := prog_4_method_1_code
def yX2_init : MethodName := ⟨RX2, "<init>", "()V"⟩
abbrev cX2_hear : ByteArray := prog_4_method_2_code
def yX2_hear : MethodName := ⟨RX2, "hear", "(III)V"⟩
abbrev cX2_fewestUnits : ByteArray := prog_4_method_3_code
def yX2_fewestUnits : MethodName := ⟨RX2, "fewestUnits", "(LSmokeTalk$Menu;I)I"⟩
abbrev cX2_mostPlaces : ByteArray := prog_4_method_4_code
def yX2_mostPlaces : MethodName := ⟨RX2, "mostPlaces", "(LSmokeTalk$Menu;)I"⟩
abbrev cX2_choose : ByteArray := prog_4_method_5_code
def yX2_choose : MethodName := ⟨RX2, "choose", "(LSmokeTalk$Speech;LSmokeTalk$Menu;III)V"⟩
abbrev cX2_compare : ByteArray := prog_4_method_6_code
def yX2_compare : MethodName := ⟨RX2, "compare", "(I)V"⟩
def RX3 : String := "SmokeTalk$Suppers"
def TX3 : u_T := fun k => match k with
  | 0 => ("SmokeTalk$Suppers", "larders", "[I", true)
  | 1 => ("SmokeTalk$Suppers", "plumeHouses", "[I", true)
  | 2 => ("SmokeTalk$Suppers", "plumeDishes", "[I", true)
  | 3 => ("SmokeTalk$Suppers", "houses", "I", false)
  | 4 => ("SmokeTalk$Suppers", "plumes", "I", false)
  | 5 => ("SmokeTalk$Suppers", "haze", "I", false)
  | 6 => ("SmokeTalk$Suppers", "lottery", "I", false)
  | _ => ("SmokeTalk$Suppers", "kept", "Z", false)
def tyX3 : Nat → FieldType := fun k => match k with
  | 0 => .array .int
  | 1 => .array .int
  | 2 => .array .int
  | 3 => .int
  | 4 => .int
  | 5 => .int
  | 6 => .int
  | _ => .boolean
abbrev wsX30 : List Cond := u_ws RX3 TX3 8
theorem nmX3 : ∀ a, a < 8 → ∀ b, b < 8 → a ≠ b → (TX3 a).2.1 ≠ (TX3 b).2.1 := by decide +kernel
theorem tyX3_ok : ∀ k, k < 8 → parseFieldDescriptor (TX3 k).2.2.1 = some (tyX3 k) := by decide +kernel
abbrev cX3_init : ByteArray := prog_5_method_1_code
def yX3_init : MethodName := ⟨RX3, "<init>", "()V"⟩
abbrev cX3_become : ByteArray := prog_5_method_2_code
def yX3_become : MethodName := ⟨RX3, "become", "(LSmokeTalk$Suppers;)V"⟩
abbrev cX3_settle : ByteArray := prog_5_method_3_code
def yX3_settle : MethodName := ⟨RX3, "settle", "([I)V"⟩
abbrev cX3_hasHouse : ByteArray := prog_5_method_4_code
def yX3_hasHouse : MethodName := ⟨RX3, "hasHouse", "(I)Z"⟩
abbrev cX3_stock : ByteArray := prog_5_method_5_code
def yX3_stock : MethodName := ⟨RX3, "stock", "(II)I"⟩
abbrev cX3_allStock : ByteArray := prog_5_method_6_code
def yX3_allStock : MethodName := ⟨RX3, "allStock", "(I)I"⟩
abbrev cX3_change : ByteArray := prog_5_method_7_code
def yX3_change : MethodName := ⟨RX3, "change", "(III)V"⟩
abbrev cX3_fill : ByteArray := prog_5_method_8_code
def yX3_fill : MethodName := ⟨RX3, "fill", "(I[I)V"⟩
abbrev cX3_rise : ByteArray := prog_5_method_9_code
def yX3_rise : MethodName := ⟨RX3, "rise", "(II)V"⟩
abbrev cX3_thousandths : ByteArray := prog_5_method_10_code
def yX3_thousandths : MethodName := ⟨RX3, "thousandths", "(II)I"⟩
abbrev cX3_draw : ByteArray := prog_5_method_11_code
def yX3_draw : MethodName := ⟨RX3, "draw", "()I"⟩
def RX4 : String := "SmokeTalk$Telling"
def TX4 : u_T := fun k => match k with
  | 0 => ("SmokeTalk$Telling", "menu", "LSmokeTalk$Menu;", true)
  | 1 => ("SmokeTalk$Telling", "suppers", "LSmokeTalk$Suppers;", true)
  | 2 => ("SmokeTalk$Telling", "numbers", "[I", true)
  | _ => ("SmokeTalk$Telling", "fogTold", "Z", false)
def tyX4 : Nat → FieldType := fun k => match k with
  | 0 => .object "SmokeTalk$Menu"
  | 1 => .object "SmokeTalk$Suppers"
  | 2 => .array .int
  | _ => .boolean
abbrev wsX40 : List Cond := u_ws RX4 TX4 4
theorem nmX4 : ∀ a, a < 4 → ∀ b, b < 4 → a ≠ b → (TX4 a).2.1 ≠ (TX4 b).2.1 := by decide +kernel
theorem tyX4_ok : ∀ k, k < 4 → parseFieldDescriptor (TX4 k).2.2.1 = some (tyX4 k) := by decide +kernel
abbrev cX4_init : ByteArray := prog_6_method_1_code
def yX4_init : MethodName := ⟨RX4, "<init>", "()V"⟩
abbrev cX4_readAll : ByteArray := prog_6_method_2_code
def yX4_readAll : MethodName := ⟨RX4, "readAll", "(LSmokeTalk$Text;)I"⟩
abbrev cX4_readItem : ByteArray := prog_6_method_3_code
def yX4_readItem : MethodName := ⟨RX4, "readItem", "(LSmokeTalk$Text;)Z"⟩
abbrev cX4_mayBegin : ByteArray := prog_6_method_4_code
def yX4_mayBegin : MethodName := ⟨RX4, "mayBegin", "(I)Z"⟩
abbrev cX4_numbersOf : ByteArray := prog_6_method_5_code
def yX4_numbersOf : MethodName := ⟨RX4, "numbersOf", "(I)I"⟩
abbrev cX4_mostOf : ByteArray := prog_6_method_6_code
def yX4_mostOf : MethodName := ⟨RX4, "mostOf", "(II)I"⟩
abbrev cX4_draft : ByteArray := prog_6_method_7_code
def yX4_draft : MethodName := ⟨RX4, "draft", "(I)V"⟩
def RX5 : String := "SmokeTalk$Text"
def TX5 : u_T := fun k => match k with
  | 0 => ("SmokeTalk$Text", "bytes", "[I", true)
  | 1 => ("SmokeTalk$Text", "length", "I", false)
  | 2 => ("SmokeTalk$Text", "at", "I", false)
  | 3 => ("SmokeTalk$Text", "start", "I", false)
  | 4 => ("SmokeTalk$Text", "token", "I", false)
  | _ => ("SmokeTalk$Text", "number", "I", false)
def tyX5 : Nat → FieldType := fun k => match k with
  | 0 => .array .int
  | 1 => .int
  | 2 => .int
  | 3 => .int
  | 4 => .int
  | _ => .int
abbrev wsX50 : List Cond := u_ws RX5 TX5 6
theorem nmX5 : ∀ a, a < 6 → ∀ b, b < 6 → a ≠ b → (TX5 a).2.1 ≠ (TX5 b).2.1 := by decide +kernel
theorem tyX5_ok : ∀ k, k < 6 → parseFieldDescriptor (TX5 k).2.2.1 = some (tyX5 k) := by decide +kernel
abbrev cX5_init : ByteArray := prog_7_method_1_code
def yX5_init : MethodName := ⟨RX5, "<init>", "()V"⟩
abbrev cX5_append : ByteArray := prog_7_method_2_code
def yX5_append : MethodName := ⟨RX5, "append", "(I)V"⟩
abbrev cX5_rewind : ByteArray := prog_7_method_3_code
def yX5_rewind : MethodName := ⟨RX5, "rewind", "()V"⟩
abbrev cX5_step : ByteArray := prog_7_method_4_code
def yX5_step : MethodName := ⟨RX5, "step", "()V"⟩
abbrev cX5_readNumber : ByteArray := prog_7_method_5_code
def yX5_readNumber : MethodName := ⟨RX5, "readNumber", "()I"⟩
abbrev cX5_readName : ByteArray := prog_7_method_6_code
def yX5_readName : MethodName := ⟨RX5, "readName", "()I"⟩
abbrev cX5_spells : ByteArray := prog_7_method_7_code
def yX5_spells : MethodName := ⟨RX5, "spells", "(Ljava/lang/String;)Z"⟩
abbrev cX5_isDigit : ByteArray := prog_7_method_8_code
def yX5_isDigit : MethodName := ⟨RX5, "isDigit", "(I)Z"⟩
abbrev cX5_isLetter : ByteArray := prog_7_method_9_code
def yX5_isLetter : MethodName := ⟨RX5, "isLetter", "(I)Z"⟩
def RX6 : String := "SmokeTalk"
def TX6 : u_T := fun k => match k with
  | 0 => ("SmokeTalk", "text", "LSmokeTalk$Text;", true)
  | 1 => ("SmokeTalk", "telling", "LSmokeTalk$Telling;", true)
  | 2 => ("SmokeTalk", "menu", "LSmokeTalk$Menu;", true)
  | 3 => ("SmokeTalk", "now", "LSmokeTalk$Suppers;", true)
  | 4 => ("SmokeTalk", "firstImage", "LSmokeTalk$Suppers;", true)
  | 5 => ("SmokeTalk", "secondImage", "LSmokeTalk$Suppers;", true)
  | 6 => ("SmokeTalk", "speech", "LSmokeTalk$Speech;", true)
  | 7 => ("SmokeTalk", "links", "LSmokeTalk$Chain;", true)
  | 8 => ("SmokeTalk", "pot", "[I", true)
  | _ => ("SmokeTalk", "traced", "J", false)
def tyX6 : Nat → FieldType := fun k => match k with
  | 0 => .object "SmokeTalk$Text"
  | 1 => .object "SmokeTalk$Telling"
  | 2 => .object "SmokeTalk$Menu"
  | 3 => .object "SmokeTalk$Suppers"
  | 4 => .object "SmokeTalk$Suppers"
  | 5 => .object "SmokeTalk$Suppers"
  | 6 => .object "SmokeTalk$Speech"
  | 7 => .object "SmokeTalk$Chain"
  | 8 => .array .int
  | _ => .long
abbrev wsX60 : List Cond := u_ws RX6 TX6 10
theorem nmX6 : ∀ a, a < 10 → ∀ b, b < 10 → a ≠ b → (TX6 a).2.1 ≠ (TX6 b).2.1 := by decide +kernel
theorem tyX6_ok : ∀ k, k < 10 → parseFieldDescriptor (TX6 k).2.2.1 = some (tyX6 k) := by decide +kernel
abbrev cX6_init : ByteArray := prog_1_method_1_code
def yX6_init : MethodName := ⟨RX6, "<init>", "()V"⟩
abbrev cX6_type : ByteArray := prog_1_method_2_code
def yX6_type : MethodName := ⟨RX6, "type", "(JI)I"⟩
abbrev cX6_clear : ByteArray := prog_1_method_3_code
def yX6_clear : MethodName := ⟨RX6, "clear", "()I"⟩
abbrev cX6_valley : ByteArray := prog_1_method_4_code
def yX6_valley : MethodName := ⟨RX6, "valley", "()I"⟩
abbrev cX6_house : ByteArray := prog_1_method_5_code
def yX6_house : MethodName := ⟨RX6, "house", "(II)I"⟩
abbrev cX6_dish : ByteArray := prog_1_method_6_code
def yX6_dish : MethodName := ⟨RX6, "dish", "(II)I"⟩
abbrev cX6_cook : ByteArray := prog_1_method_7_code
def yX6_cook : MethodName := ⟨RX6, "cook", "(II)I"⟩
abbrev cX6_undo : ByteArray := prog_1_method_8_code
def yX6_undo : MethodName := ⟨RX6, "undo", "()I"⟩
abbrev cX6_gives : ByteArray := prog_1_method_9_code
def yX6_gives : MethodName := ⟨RX6, "gives", "(IIII)I"⟩
abbrev cX6_burns : ByteArray := prog_1_method_10_code
def yX6_burns : MethodName := ⟨RX6, "burns", "(I)I"⟩
abbrev cX6_plume : ByteArray := prog_1_method_11_code
def yX6_plume : MethodName := ⟨RX6, "plume", "(II)I"⟩
abbrev cX6_fog : ByteArray := prog_1_method_12_code
def yX6_fog : MethodName := ⟨RX6, "fog", "(I)I"⟩
abbrev cX6_says : ByteArray := prog_1_method_13_code
def yX6_says : MethodName := ⟨RX6, "says", "(IIIII)I"⟩
abbrev cX6_nearest : ByteArray := prog_1_method_14_code
def yX6_nearest : MethodName := ⟨RX6, "nearest", "(IIII)I"⟩
abbrev cX6_reads : ByteArray := prog_1_method_15_code
def yX6_reads : MethodName := ⟨RX6, "reads", "(II)I"⟩
abbrev cX6_means : ByteArray := prog_1_method_16_code
def yX6_means : MethodName := ⟨RX6, "means", "(I)I"⟩
abbrev cX6_chain : ByteArray := prog_1_method_17_code
def yX6_chain : MethodName := ⟨RX6, "chain", "(III)J"⟩
abbrev cX6_who : ByteArray := prog_1_method_18_code
def yX6_who : MethodName := ⟨RX6, "who", "(III)I"⟩
abbrev cX6_days : ByteArray := prog_1_method_19_code
def yX6_days : MethodName := ⟨RX6, "days", "(I)I"⟩
abbrev cX6_code : ByteArray := prog_1_method_20_code
def yX6_code : MethodName := ⟨RX6, "code", "(III)I"⟩
abbrev cX6_feast : ByteArray := prog_1_method_21_code
def yX6_feast : MethodName := ⟨RX6, "feast", "(II)I"⟩
abbrev cX6_silent : ByteArray := prog_1_method_22_code
def yX6_silent : MethodName := ⟨RX6, "silent", "(I)I"⟩
abbrev cX6_drawn : ByteArray := prog_1_method_23_code
def yX6_drawn : MethodName := ⟨RX6, "drawn", "(I)I"⟩
abbrev cX6_lot : ByteArray := prog_1_method_24_code
def yX6_lot : MethodName := ⟨RX6, "lot", "(I)I"⟩
abbrev cX6_mark : ByteArray := prog_1_method_25_code
def yX6_mark : MethodName := ⟨RX6, "mark", "(II)I"⟩
abbrev cX6_keep : ByteArray := prog_1_method_26_code
def yX6_keep : MethodName := ⟨RX6, "keep", "(I)I"⟩
abbrev cX6_back : ByteArray := prog_1_method_27_code
def yX6_back : MethodName := ⟨RX6, "back", "(I)I"⟩
abbrev cX6_count : ByteArray := prog_1_method_28_code
def yX6_count : MethodName := ⟨RX6, "count", "(I)I"⟩
abbrev cX6_trace : ByteArray := prog_1_method_29_code
def yX6_trace : MethodName := ⟨RX6, "trace", "()J"⟩
abbrev cX6_isSmoke : ByteArray := prog_1_method_30_code
def yX6_isSmoke : MethodName := ⟨RX6, "isSmoke", "(I)Z"⟩
abbrev cX6_isWord : ByteArray := prog_1_method_31_code
def yX6_isWord : MethodName := ⟨RX6, "isWord", "(I)Z"⟩
abbrev cX6_isRow : ByteArray := prog_1_method_32_code
def yX6_isRow : MethodName := ⟨RX6, "isRow", "(III)Z"⟩
abbrev cX6_couldCook : ByteArray := prog_1_method_33_code
def yX6_couldCook : MethodName := ⟨RX6, "couldCook", "(II)Z"⟩
abbrev cX6_weightOf : ByteArray := prog_1_method_34_code
def yX6_weightOf : MethodName := ⟨RX6, "weightOf", "(II)I"⟩
abbrev cX6_leastTerms : ByteArray := prog_1_method_35_code
def yX6_leastTerms : MethodName := ⟨RX6, "leastTerms", "(JJI)J"⟩
abbrev cX6_imageOf : ByteArray := prog_1_method_36_code
def yX6_imageOf : MethodName := ⟨RX6, "imageOf", "(I)LSmokeTalk$Suppers;"⟩
abbrev cX6_markOfDish : ByteArray := prog_1_method_37_code
def yX6_markOfDish : MethodName := ⟨RX6, "markOfDish", "(I)I"⟩
abbrev cX6_markOfStew : ByteArray := prog_1_method_38_code
def yX6_markOfStew : MethodName := ⟨RX6, "markOfStew", "(I)I"⟩
abbrev cX6_markOfRoast : ByteArray := prog_1_method_39_code
def yX6_markOfRoast : MethodName := ⟨RX6, "markOfRoast", "(I)I"⟩
abbrev cX6_markOfBrides : ByteArray := prog_1_method_40_code
def yX6_markOfBrides : MethodName := ⟨RX6, "markOfBrides", "(I)I"⟩
abbrev cX6_markOfPoor : ByteArray := prog_1_method_41_code
def yX6_markOfPoor : MethodName := ⟨RX6, "markOfPoor", "(I)I"⟩
abbrev cX6_markOfBurnt : ByteArray := prog_1_method_42_code
def yX6_markOfBurnt : MethodName := ⟨RX6, "markOfBurnt", "(I)I"⟩
def RX7 : String := "SmokeTalkModel"
def TX7 : u_T := fun k => match k with
  | 0 => ("SmokeTalkModel", "trace", "J", false)
  | 1 => ("SmokeTalkModel", "text", "[B", true)
  | 2 => ("SmokeTalkModel", "typed", "I", false)
  | 3 => ("SmokeTalkModel", "houses", "[I", true)
  | 4 => ("SmokeTalkModel", "larder", "[I", true)
  | 5 => ("SmokeTalkModel", "dishes", "[I", true)
  | 6 => ("SmokeTalkModel", "needs", "[I", true)
  | 7 => ("SmokeTalkModel", "smoke", "[I", true)
  | 8 => ("SmokeTalkModel", "word", "[I", true)
  | 9 => ("SmokeTalkModel", "fogs", "[I", true)
  | 10 => ("SmokeTalkModel", "at", "I", false)
  | 11 => ("SmokeTalkModel", "start", "I", false)
  | 12 => ("SmokeTalkModel", "sort", "I", false)
  | 13 => ("SmokeTalkModel", "value", "I", false)
  | 14 => ("SmokeTalkModel", "fault", "I", false)
  | 15 => ("SmokeTalkModel", "hasFog", "Z", false)
  | 16 => ("SmokeTalkModel", "now", "[I", true)
  | 17 => ("SmokeTalkModel", "isKept", "[Z", true)
  | 18 => ("SmokeTalkModel", "row", "[I", true)
  | 19 => ("SmokeTalkModel", "best", "[I", true)
  | 20 => ("SmokeTalkModel", "asked", "[I", true)
  | 21 => ("SmokeTalkModel", "share", "[J", true)
  | 22 => ("SmokeTalkModel", "then", "[J", true)
  | _ => ("SmokeTalkModel", "left", "[I", true)
def tyX7 : Nat → FieldType := fun k => match k with
  | 0 => .long
  | 1 => .array .byte
  | 2 => .int
  | 3 => .array .int
  | 4 => .array .int
  | 5 => .array .int
  | 6 => .array .int
  | 7 => .array .int
  | 8 => .array .int
  | 9 => .array .int
  | 10 => .int
  | 11 => .int
  | 12 => .int
  | 13 => .int
  | 14 => .int
  | 15 => .boolean
  | 16 => .array .int
  | 17 => .array .boolean
  | 18 => .array .int
  | 19 => .array .int
  | 20 => .array .int
  | 21 => .array .long
  | 22 => .array .long
  | _ => .array .int
abbrev wsX70 : List Cond := u_ws RX7 TX7 24
theorem nmX7 : ∀ a, a < 24 → ∀ b, b < 24 → a ≠ b → (TX7 a).2.1 ≠ (TX7 b).2.1 := by decide +kernel
theorem tyX7_ok : ∀ k, k < 24 → parseFieldDescriptor (TX7 k).2.2.1 = some (tyX7 k) := by decide +kernel
abbrev cX7_init : ByteArray := prog_9_method_1_code
def yX7_init : MethodName := ⟨RX7, "<init>", "()V"⟩
abbrev cX7_in : ByteArray := prog_9_method_3_code
def yX7_in : MethodName := ⟨RX7, "in", "(III)Z"⟩
abbrev cX7_type : ByteArray := prog_9_method_4_code
def yX7_type : MethodName := ⟨RX7, "type", "(JI)I"⟩
abbrev cX7_clear : ByteArray := prog_9_method_5_code
def yX7_clear : MethodName := ⟨RX7, "clear", "()I"⟩
abbrev cX7_here : ByteArray := prog_9_method_6_code
def yX7_here : MethodName := ⟨RX7, "here", "()I"⟩
abbrev cX7_meaning : ByteArray := prog_9_method_7_code
def yX7_meaning : MethodName := ⟨RX7, "meaning", "(I)I"⟩
abbrev cX7_next : ByteArray := prog_9_method_8_code
def yX7_next : MethodName := ⟨RX7, "next", "()V"⟩
abbrev cX7_due : ByteArray := prog_9_method_9_code
def yX7_due : MethodName := ⟨RX7, "due", "(Z)I"⟩
abbrev cX7_number : ByteArray := prog_9_method_10_code
def yX7_number : MethodName := ⟨RX7, "number", "(I)I"⟩
abbrev cX7_readItem : ByteArray := prog_9_method_11_code
def yX7_readItem : MethodName := ⟨RX7, "readItem", "()V"⟩
abbrev cX7_valley : ByteArray := prog_9_method_12_code
def yX7_valley : MethodName := ⟨RX7, "valley", "()I"⟩
abbrev cX7_isHouse : ByteArray := prog_9_method_13_code
def yX7_isHouse : MethodName := ⟨RX7, "isHouse", "(I)Z"⟩
abbrev cX7_isDish : ByteArray := prog_9_method_14_code
def yX7_isDish : MethodName := ⟨RX7, "isDish", "(I)Z"⟩
abbrev cX7_isSmoke : ByteArray := prog_9_method_15_code
def yX7_isSmoke : MethodName := ⟨RX7, "isSmoke", "(I)Z"⟩
abbrev cX7_unitsOf : ByteArray := prog_9_method_16_code
def yX7_unitsOf : MethodName := ⟨RX7, "unitsOf", "(I)I"⟩
abbrev cX7_storeOf : ByteArray := prog_9_method_17_code
def yX7_storeOf : MethodName := ⟨RX7, "storeOf", "(I)I"⟩
abbrev cX7_house : ByteArray := prog_9_method_18_code
def yX7_house : MethodName := ⟨RX7, "house", "(II)I"⟩
abbrev cX7_dish : ByteArray := prog_9_method_19_code
def yX7_dish : MethodName := ⟨RX7, "dish", "(II)I"⟩
abbrev cX7_canCook : ByteArray := prog_9_method_20_code
def yX7_canCook : MethodName := ⟨RX7, "canCook", "(II)Z"⟩
abbrev cX7_cook : ByteArray := prog_9_method_21_code
def yX7_cook : MethodName := ⟨RX7, "cook", "(II)I"⟩
abbrev cX7_undo : ByteArray := prog_9_method_22_code
def yX7_undo : MethodName := ⟨RX7, "undo", "()I"⟩
abbrev cX7_gives : ByteArray := prog_9_method_23_code
def yX7_gives : MethodName := ⟨RX7, "gives", "(IIII)I"⟩
abbrev cX7_burns : ByteArray := prog_9_method_24_code
def yX7_burns : MethodName := ⟨RX7, "burns", "(I)I"⟩
abbrev cX7_plume : ByteArray := prog_9_method_25_code
def yX7_plume : MethodName := ⟨RX7, "plume", "(II)I"⟩
abbrev cX7_fog : ByteArray := prog_9_method_26_code
def yX7_fog : MethodName := ⟨RX7, "fog", "(I)I"⟩
abbrev cX7_areWords : ByteArray := prog_9_method_27_code
def yX7_areWords : MethodName := ⟨RX7, "areWords", "(III)Z"⟩
abbrev cX7_hasAll : ByteArray := prog_9_method_28_code
def yX7_hasAll : MethodName := ⟨RX7, "hasAll", "(I)Z"⟩
abbrev cX7_isRow : ByteArray := prog_9_method_29_code
def yX7_isRow : MethodName := ⟨RX7, "isRow", "(II)Z"⟩
abbrev cX7_ask : ByteArray := prog_9_method_30_code
def yX7_ask : MethodName := ⟨RX7, "ask", "(III)V"⟩
abbrev cX7_unitsFor : ByteArray := prog_9_method_31_code
def yX7_unitsFor : MethodName := ⟨RX7, "unitsFor", "(II)I"⟩
abbrev cX7_says : ByteArray := prog_9_method_32_code
def yX7_says : MethodName := ⟨RX7, "says", "(IIIII)I"⟩
abbrev cX7_bitsIn : ByteArray := prog_9_method_33_code
def yX7_bitsIn : MethodName := ⟨RX7, "bitsIn", "(I)I"⟩
abbrev cX7_nearest : ByteArray := prog_9_method_34_code
def yX7_nearest : MethodName := ⟨RX7, "nearest", "(IIII)I"⟩
abbrev cX7_readAs : ByteArray := prog_9_method_35_code
def yX7_readAs : MethodName := ⟨RX7, "readAs", "(II)I"⟩
abbrev cX7_reads : ByteArray := prog_9_method_36_code
def yX7_reads : MethodName := ⟨RX7, "reads", "(II)I"⟩
abbrev cX7_meant : ByteArray := prog_9_method_37_code
def yX7_meant : MethodName := ⟨RX7, "meant", "(I)I"⟩
abbrev cX7_means : ByteArray := prog_9_method_38_code
def yX7_means : MethodName := ⟨RX7, "means", "(I)I"⟩
abbrev cX7_leastOf : ByteArray := prog_9_method_39_code
def yX7_leastOf : MethodName := ⟨RX7, "leastOf", "(I)I"⟩
abbrev cX7_common : ByteArray := prog_9_method_40_code
def yX7_common : MethodName := ⟨RX7, "common", "(JJ)J"⟩
abbrev cX7_chain : ByteArray := prog_9_method_41_code
def yX7_chain : MethodName := ⟨RX7, "chain", "(III)J"⟩
abbrev cX7_who : ByteArray := prog_9_method_42_code
def yX7_who : MethodName := ⟨RX7, "who", "(III)I"⟩
abbrev cX7_nextSupper : ByteArray := prog_9_method_43_code
def yX7_nextSupper : MethodName := ⟨RX7, "nextSupper", "()I"⟩
abbrev cX7_days : ByteArray := prog_9_method_44_code
def yX7_days : MethodName := ⟨RX7, "days", "(I)I"⟩
abbrev cX7_saidBy : ByteArray := prog_9_method_45_code
def yX7_saidBy : MethodName := ⟨RX7, "saidBy", "(III)I"⟩
abbrev cX7_code : ByteArray := prog_9_method_46_code
def yX7_code : MethodName := ⟨RX7, "code", "(III)I"⟩
abbrev cX7_feast : ByteArray := prog_9_method_47_code
def yX7_feast : MethodName := ⟨RX7, "feast", "(II)I"⟩
abbrev cX7_silent : ByteArray := prog_9_method_48_code
def yX7_silent : MethodName := ⟨RX7, "silent", "(I)I"⟩
abbrev cX7_drawn : ByteArray := prog_9_method_49_code
def yX7_drawn : MethodName := ⟨RX7, "drawn", "(I)I"⟩
abbrev cX7_lot : ByteArray := prog_9_method_50_code
def yX7_lot : MethodName := ⟨RX7, "lot", "(I)I"⟩
abbrev cX7_mark : ByteArray := prog_9_method_51_code
def yX7_mark : MethodName := ⟨RX7, "mark", "(II)I"⟩
abbrev cX7_copy : ByteArray := prog_9_method_52_code
def yX7_copy : MethodName := ⟨RX7, "copy", "(II)V"⟩
abbrev cX7_keep : ByteArray := prog_9_method_53_code
def yX7_keep : MethodName := ⟨RX7, "keep", "(I)I"⟩
abbrev cX7_back : ByteArray := prog_9_method_54_code
def yX7_back : MethodName := ⟨RX7, "back", "(I)I"⟩
abbrev cX7_count : ByteArray := prog_9_method_55_code
def yX7_count : MethodName := ⟨RX7, "count", "(I)I"⟩
abbrev cX7_trace : ByteArray := prog_9_method_56_code
def yX7_trace : MethodName := ⟨RX7, "trace", "()J"⟩
def RJ6 : String := "java/lang/Integer"
def TJ6 : u_T := fun k => match k with
  | _ => ("", "", "", false)
def tyJ6 : Nat → FieldType := fun k => match k with
  | _ => .int
abbrev wsJ60 : List Cond := u_ws RJ6 TJ6 0
theorem nmJ6 : ∀ a, a < 0 → ∀ b, b < 0 → a ≠ b → (TJ6 a).2.1 ≠ (TJ6 b).2.1 := by decide +kernel
theorem tyJ6_ok : ∀ k, k < 0 → parseFieldDescriptor (TJ6 k).2.2.1 = some (tyJ6 k) := by decide +kernel
abbrev cJ6_bitCount_0f7a4 : ByteArray := prog_10_method_49_code
def yJ6_bitCount_0f7a4 : MethodName := ⟨RJ6, "bitCount", "(I)I"⟩
def RJ9 : String := "java/lang/Math"
def TJ9 : u_T := fun k => match k with
  | _ => ("", "", "", false)
def tyJ9 : Nat → FieldType := fun k => match k with
  | _ => .int
abbrev wsJ90 : List Cond := u_ws RJ9 TJ9 0
theorem nmJ9 : ∀ a, a < 0 → ∀ b, b < 0 → a ≠ b → (TJ9 a).2.1 ≠ (TJ9 b).2.1 := by decide +kernel
theorem tyJ9_ok : ∀ k, k < 0 → parseFieldDescriptor (TJ9 k).2.2.1 = some (tyJ9 k) := by decide +kernel
abbrev cJ9_max_7cf53 : ByteArray := prog_11_method_65_code
def yJ9_max_7cf53 : MethodName := ⟨RJ9, "max", "(II)I"⟩
abbrev cJ9_min_7cf53 : ByteArray := prog_11_method_69_code
def yJ9_min_7cf53 : MethodName := ⟨RJ9, "min", "(II)I"⟩
def RJ0 : String := "java/lang/String"
def TJ0 : u_T := fun k => match k with
  | _ => ("", "", "", false)
def tyJ0 : Nat → FieldType := fun k => match k with
  | _ => .int
abbrev wsJ00 : List Cond := u_ws RJ0 TJ0 0
theorem nmJ0 : ∀ a, a < 0 → ∀ b, b < 0 → a ≠ b → (TJ0 a).2.1 ≠ (TJ0 b).2.1 := by decide +kernel
theorem tyJ0_ok : ∀ k, k < 0 → parseFieldDescriptor (TJ0 k).2.2.1 = some (tyJ0 k) := by decide +kernel
abbrev cJ0_length_8abf5 : ByteArray := prog_12_method_54_code
def yJ0_length_8abf5 : MethodName := ⟨RJ0, "length", "()I"⟩
abbrev cJ0_charAt_5068e : ByteArray := prog_12_method_56_code
def yJ0_charAt_5068e : MethodName := ⟨RJ0, "charAt", "(I)C"⟩
abbrev cJ0_coder_7d493 : ByteArray := prog_12_method_152_code
def yJ0_coder_7d493 : MethodName := ⟨RJ0, "coder", "()B"⟩
abbrev cJ0_isLatin1_aae02 : ByteArray := prog_12_method_154_code
def yJ0_isLatin1_aae02 : MethodName := ⟨RJ0, "isLatin1", "()Z"⟩
abbrev cJ0_checkIndex_df160 : ByteArray := prog_12_method_155_code
def yJ0_checkIndex_df160 : MethodName := ⟨RJ0, "checkIndex", "(II)V"⟩
def RJ1 : String := "java/lang/StringLatin1"
def TJ1 : u_T := fun k => match k with
  | _ => ("", "", "", false)
def tyJ1 : Nat → FieldType := fun k => match k with
  | _ => .int
abbrev wsJ10 : List Cond := u_ws RJ1 TJ1 0
theorem nmJ1 : ∀ a, a < 0 → ∀ b, b < 0 → a ≠ b → (TJ1 a).2.1 ≠ (TJ1 b).2.1 := by decide +kernel
theorem tyJ1_ok : ∀ k, k < 0 → parseFieldDescriptor (TJ1 k).2.2.1 = some (tyJ1 k) := by decide +kernel
abbrev cJ1_charAt_3b067 : ByteArray := prog_13_method_2_code
def yJ1_charAt_3b067 : MethodName := ⟨RJ1, "charAt", "([BI)C"⟩
def RJ2 : String := "java/lang/StringUTF16"
def TJ2 : u_T := fun k => match k with
  | _ => ("", "", "", false)
def tyJ2 : Nat → FieldType := fun k => match k with
  | _ => .int
abbrev wsJ20 : List Cond := u_ws RJ2 TJ2 0
theorem nmJ2 : ∀ a, a < 0 → ∀ b, b < 0 → a ≠ b → (TJ2 a).2.1 ≠ (TJ2 b).2.1 := by decide +kernel
theorem tyJ2_ok : ∀ k, k < 0 → parseFieldDescriptor (TJ2 k).2.2.1 = some (tyJ2 k) := by decide +kernel
abbrev cJ2_getChar_3b067 : ByteArray := prog_14_method_5_code
def yJ2_getChar_3b067 : MethodName := ⟨RJ2, "getChar", "([BI)C"⟩
abbrev cJ2_length_9d52b : ByteArray := prog_14_method_6_code
def yJ2_length_9d52b : MethodName := ⟨RJ2, "length", "([B)I"⟩
abbrev cJ2_charAt_3b067 : ByteArray := prog_14_method_83_code
def yJ2_charAt_3b067 : MethodName := ⟨RJ2, "charAt", "([BI)C"⟩
abbrev cJ2_checkIndex_2214a : ByteArray := prog_14_method_91_code
def yJ2_checkIndex_2214a : MethodName := ⟨RJ2, "checkIndex", "(I[B)V"⟩
def RJ3 : String := "jdk/internal/util/Preconditions"
def TJ3 : u_T := fun k => match k with
  | _ => ("", "", "", false)
def tyJ3 : Nat → FieldType := fun k => match k with
  | _ => .int
abbrev wsJ30 : List Cond := u_ws RJ3 TJ3 0
theorem nmJ3 : ∀ a, a < 0 → ∀ b, b < 0 → a ≠ b → (TJ3 a).2.1 ≠ (TJ3 b).2.1 := by decide +kernel
theorem tyJ3_ok : ∀ k, k < 0 → parseFieldDescriptor (TJ3 k).2.2.1 = some (tyJ3 k) := by decide +kernel
abbrev cJ3_checkIndex_8e157 : ByteArray := prog_15_method_11_code
def yJ3_checkIndex_8e157 : MethodName := ⟨RJ3, "checkIndex", "(IILjava/util/function/BiFunction;)I"⟩
def RL : String := "SmokeTalkLaw"
abbrev cL_law : ByteArray := code
def yL_law : MethodName := ⟨RL, "law", "([I)Z"⟩
abbrev vwCl : List vw_C := [(RX0, TX0, 2), (RX1, TX1, 5), (RX2, TX2, 6), (RX3, TX3, 8), (RX4, TX4, 4), (RX5, TX5, 6), (RX6, TX6, 10), (RX7, TX7, 24)]
/-- the words that every contract carries: those of the tables that a call may hand on -/
def UU : List Cond := lw_tbl.filter goodWord
theorem uu {w : Cond} (i : Nat) (h : lw_tbl[i]? = some w) (hg : goodWord w = true) : w ∈ UU := List.mem_filter.mpr ⟨List.mem_of_getElem? h, hg⟩
theorem UU_in : ∀ w ∈ UU, w ∈ lw_tbl := fun _ h => (List.mem_filter.mp h).1
theorem UU_good : ∀ w ∈ UU, goodWord w = true := fun _ h => (List.mem_filter.mp h).2
abbrev wsY (y : MethodName) (b : ByteArray) (n : Nat) (ret : Option FieldType) : List Cond := Cond.code y b n ret :: UU
theorem goodY {y : MethodName} {b : ByteArray} {n : Nat} {ret : Option FieldType} (hc : Cond.code y b n ret ∈ UU) : GoodIn UU (wsY y b n ret) := fun w h => (List.mem_cons.mp h).elim (fun e => e ▸ ⟨hc, good_of_word (UU_good _ hc)⟩) (fun h => ⟨h, good_of_word (UU_good _ h)⟩)
end
section
theorem u0 : (Cond.selects "SmokeTalk$Text" ⟨"SmokeTalk$Text", "readNumber", "()I"⟩ ⟨"SmokeTalk$Text", "readNumber", "()I"⟩) ∈ UU := uu 0 (by decide +kernel) rfl
theorem u1 : (Cond.selects "SmokeTalk$Text" ⟨"SmokeTalk$Text", "readName", "()I"⟩ ⟨"SmokeTalk$Text", "readName", "()I"⟩) ∈ UU := uu 1 (by decide +kernel) rfl
theorem u2 : (Cond.selects "SmokeTalk$Text" ⟨"SmokeTalk$Text", "spells", "(Ljava/lang/String;)Z"⟩ ⟨"SmokeTalk$Text", "spells", "(Ljava/lang/String;)Z"⟩) ∈ UU := uu 2 (by decide +kernel) rfl
theorem u3 : (Cond.selects "SmokeTalk$Telling" ⟨"SmokeTalk$Telling", "readItem", "(LSmokeTalk$Text;)Z"⟩ ⟨"SmokeTalk$Telling", "readItem", "(LSmokeTalk$Text;)Z"⟩) ∈ UU := uu 3 (by decide +kernel) rfl
theorem u4 : (Cond.selects "SmokeTalk$Telling" ⟨"SmokeTalk$Telling", "mayBegin", "(I)Z"⟩ ⟨"SmokeTalk$Telling", "mayBegin", "(I)Z"⟩) ∈ UU := uu 4 (by decide +kernel) rfl
theorem u5 : (Cond.selects "SmokeTalk$Telling" ⟨"SmokeTalk$Telling", "draft", "(I)V"⟩ ⟨"SmokeTalk$Telling", "draft", "(I)V"⟩) ∈ UU := uu 5 (by decide +kernel) rfl
theorem u6 : (Cond.selects "SmokeTalk" ⟨"SmokeTalk", "couldCook", "(II)Z"⟩ ⟨"SmokeTalk", "couldCook", "(II)Z"⟩) ∈ UU := uu 6 (by decide +kernel) rfl
theorem u7 : (Cond.selects "SmokeTalk$Speech" ⟨"SmokeTalk$Speech", "compare", "(I)V"⟩ ⟨"SmokeTalk$Speech", "compare", "(I)V"⟩) ∈ UU := uu 7 (by decide +kernel) rfl
theorem u8 : (Cond.selects "SmokeTalk" ⟨"SmokeTalk", "weightOf", "(II)I"⟩ ⟨"SmokeTalk", "weightOf", "(II)I"⟩) ∈ UU := uu 8 (by decide +kernel) rfl
theorem u9 : (Cond.selects "SmokeTalk$Menu" ⟨"SmokeTalk$Menu", "standsOff", "(III)Z"⟩ ⟨"SmokeTalk$Menu", "standsOff", "(III)Z"⟩) ∈ UU := uu 9 (by decide +kernel) rfl
theorem u10 : (Cond.selects "SmokeTalk" ⟨"SmokeTalk", "markOfDish", "(I)I"⟩ ⟨"SmokeTalk", "markOfDish", "(I)I"⟩) ∈ UU := uu 10 (by decide +kernel) rfl
theorem u11 : (Cond.selects "SmokeTalk" ⟨"SmokeTalk", "markOfStew", "(I)I"⟩ ⟨"SmokeTalk", "markOfStew", "(I)I"⟩) ∈ UU := uu 11 (by decide +kernel) rfl
theorem u12 : (Cond.selects "SmokeTalk" ⟨"SmokeTalk", "markOfRoast", "(I)I"⟩ ⟨"SmokeTalk", "markOfRoast", "(I)I"⟩) ∈ UU := uu 12 (by decide +kernel) rfl
theorem u13 : (Cond.selects "SmokeTalk" ⟨"SmokeTalk", "markOfBrides", "(I)I"⟩ ⟨"SmokeTalk", "markOfBrides", "(I)I"⟩) ∈ UU := uu 13 (by decide +kernel) rfl
theorem u14 : (Cond.selects "SmokeTalk" ⟨"SmokeTalk", "markOfPoor", "(I)I"⟩ ⟨"SmokeTalk", "markOfPoor", "(I)I"⟩) ∈ UU := uu 14 (by decide +kernel) rfl
theorem u15 : (Cond.selects "SmokeTalk" ⟨"SmokeTalk", "markOfBurnt", "(I)I"⟩ ⟨"SmokeTalk", "markOfBurnt", "(I)I"⟩) ∈ UU := uu 15 (by decide +kernel) rfl
theorem u16 : (Cond.selects "SmokeTalk" ⟨"SmokeTalk", "imageOf", "(I)LSmokeTalk$Suppers;"⟩ ⟨"SmokeTalk", "imageOf", "(I)LSmokeTalk$Suppers;"⟩) ∈ UU := uu 16 (by decide +kernel) rfl
theorem u17 : (Cond.selects "SmokeTalkModel" ⟨"SmokeTalkModel", "next", "()V"⟩ ⟨"SmokeTalkModel", "next", "()V"⟩) ∈ UU := uu 17 (by decide +kernel) rfl
theorem u18 : (Cond.selects "SmokeTalkModel" ⟨"SmokeTalkModel", "here", "()I"⟩ ⟨"SmokeTalkModel", "here", "()I"⟩) ∈ UU := uu 18 (by decide +kernel) rfl
theorem u19 : (Cond.selects "SmokeTalkModel" ⟨"SmokeTalkModel", "readItem", "()V"⟩ ⟨"SmokeTalkModel", "readItem", "()V"⟩) ∈ UU := uu 19 (by decide +kernel) rfl
theorem u20 : (Cond.selects "SmokeTalkModel" ⟨"SmokeTalkModel", "due", "(Z)I"⟩ ⟨"SmokeTalkModel", "due", "(Z)I"⟩) ∈ UU := uu 20 (by decide +kernel) rfl
theorem u21 : (Cond.selects "SmokeTalkModel" ⟨"SmokeTalkModel", "number", "(I)I"⟩ ⟨"SmokeTalkModel", "number", "(I)I"⟩) ∈ UU := uu 21 (by decide +kernel) rfl
theorem u22 : (Cond.selects "SmokeTalkModel" ⟨"SmokeTalkModel", "isHouse", "(I)Z"⟩ ⟨"SmokeTalkModel", "isHouse", "(I)Z"⟩) ∈ UU := uu 22 (by decide +kernel) rfl
theorem u23 : (Cond.selects "SmokeTalkModel" ⟨"SmokeTalkModel", "storeOf", "(I)I"⟩ ⟨"SmokeTalkModel", "storeOf", "(I)I"⟩) ∈ UU := uu 23 (by decide +kernel) rfl
theorem u24 : (Cond.selects "SmokeTalkModel" ⟨"SmokeTalkModel", "isDish", "(I)Z"⟩ ⟨"SmokeTalkModel", "isDish", "(I)Z"⟩) ∈ UU := uu 24 (by decide +kernel) rfl
theorem u25 : (Cond.selects "SmokeTalkModel" ⟨"SmokeTalkModel", "unitsOf", "(I)I"⟩ ⟨"SmokeTalkModel", "unitsOf", "(I)I"⟩) ∈ UU := uu 25 (by decide +kernel) rfl
theorem u26 : (Cond.selects "SmokeTalkModel" ⟨"SmokeTalkModel", "canCook", "(II)Z"⟩ ⟨"SmokeTalkModel", "canCook", "(II)Z"⟩) ∈ UU := uu 26 (by decide +kernel) rfl
theorem u27 : (Cond.selects "SmokeTalkModel" ⟨"SmokeTalkModel", "ask", "(III)V"⟩ ⟨"SmokeTalkModel", "ask", "(III)V"⟩) ∈ UU := uu 27 (by decide +kernel) rfl
theorem u28 : (Cond.selects "SmokeTalkModel" ⟨"SmokeTalkModel", "unitsFor", "(II)I"⟩ ⟨"SmokeTalkModel", "unitsFor", "(II)I"⟩) ∈ UU := uu 28 (by decide +kernel) rfl
theorem u29 : (Cond.selects "SmokeTalkModel" ⟨"SmokeTalkModel", "isRow", "(II)Z"⟩ ⟨"SmokeTalkModel", "isRow", "(II)Z"⟩) ∈ UU := uu 29 (by decide +kernel) rfl
theorem u30 : (Cond.selects "SmokeTalkModel" ⟨"SmokeTalkModel", "hasAll", "(I)Z"⟩ ⟨"SmokeTalkModel", "hasAll", "(I)Z"⟩) ∈ UU := uu 30 (by decide +kernel) rfl
theorem u31 : (Cond.selects "SmokeTalkModel" ⟨"SmokeTalkModel", "readAs", "(II)I"⟩ ⟨"SmokeTalkModel", "readAs", "(II)I"⟩) ∈ UU := uu 31 (by decide +kernel) rfl
theorem u32 : (Cond.selects "SmokeTalkModel" ⟨"SmokeTalkModel", "meant", "(I)I"⟩ ⟨"SmokeTalkModel", "meant", "(I)I"⟩) ∈ UU := uu 32 (by decide +kernel) rfl
theorem u33 : (Cond.selects "SmokeTalkModel" ⟨"SmokeTalkModel", "leastOf", "(I)I"⟩ ⟨"SmokeTalkModel", "leastOf", "(I)I"⟩) ∈ UU := uu 33 (by decide +kernel) rfl
theorem u34 : (Cond.selects "SmokeTalkModel" ⟨"SmokeTalkModel", "nextSupper", "()I"⟩ ⟨"SmokeTalkModel", "nextSupper", "()I"⟩) ∈ UU := uu 34 (by decide +kernel) rfl
theorem u35 : (Cond.selects "SmokeTalkModel" ⟨"SmokeTalkModel", "saidBy", "(III)I"⟩ ⟨"SmokeTalkModel", "saidBy", "(III)I"⟩) ∈ UU := uu 35 (by decide +kernel) rfl
theorem u36 : (Cond.selects "SmokeTalkModel" ⟨"SmokeTalkModel", "copy", "(II)V"⟩ ⟨"SmokeTalkModel", "copy", "(II)V"⟩) ∈ UU := uu 36 (by decide +kernel) rfl
theorem u37 : (Cond.initialized "SmokeTalkLaw") ∈ UU := uu 37 (by decide +kernel) rfl
theorem u38 : (Cond.initialized "SmokeTalk") ∈ UU := uu 38 (by decide +kernel) rfl
theorem u39 : (Cond.initialized "SmokeTalk$Text") ∈ UU := uu 39 (by decide +kernel) rfl
theorem u40 : (Cond.initialized "SmokeTalk$Telling") ∈ UU := uu 40 (by decide +kernel) rfl
theorem u41 : (Cond.initialized "SmokeTalk$Menu") ∈ UU := uu 41 (by decide +kernel) rfl
theorem u42 : (Cond.initialized "SmokeTalk$Suppers") ∈ UU := uu 42 (by decide +kernel) rfl
theorem u43 : (Cond.initialized "SmokeTalk$Speech") ∈ UU := uu 43 (by decide +kernel) rfl
theorem u44 : (Cond.initialized "SmokeTalk$Chain") ∈ UU := uu 44 (by decide +kernel) rfl
theorem u45 : (Cond.initialized "SmokeTalkModel") ∈ UU := uu 45 (by decide +kernel) rfl
theorem u46 : (Cond.initialized "java/lang/String") ∈ UU := uu 46 (by decide +kernel) rfl
theorem u47 : (Cond.initialized "java/lang/StringLatin1") ∈ UU := uu 47 (by decide +kernel) rfl
theorem u48 : (Cond.initialized "jdk/internal/util/Preconditions") ∈ UU := uu 48 (by decide +kernel) rfl
theorem u49 : (Cond.initialized "java/lang/StringUTF16") ∈ UU := uu 49 (by decide +kernel) rfl
theorem u50 : (Cond.initialized "java/lang/Math") ∈ UU := uu 50 (by decide +kernel) rfl
theorem u51 : (Cond.initialized "java/lang/Integer") ∈ UU := uu 51 (by decide +kernel) rfl
theorem u52 : (Cond.classLink "SmokeTalkLaw" (7 : Nat) "SmokeTalk") ∈ UU := uu 52 (by decide +kernel) rfl
theorem u53 : (Cond.instantiable "SmokeTalk" (10 : Nat)) ∈ UU := uu 53 (by decide +kernel) rfl
theorem u54 : (Cond.methodLink "SmokeTalkLaw" (9 : Nat) ({ cls := "SmokeTalk", name := "<init>", desc := "()V" } : MethodName)) ∈ UU := uu 54 (by decide +kernel) rfl
theorem u55 : (Cond.instanceMethod ({ cls := "SmokeTalk", name := "<init>", desc := "()V" } : MethodName)) ∈ UU := uu 55 (by decide +kernel) rfl
theorem u56 : (Cond.code ({ cls := "SmokeTalk", name := "<init>", desc := "()V" } : MethodName) prog_1_method_1_code (1 : Nat) (Option.none : Option FieldType)) ∈ UU := uu 56 (by decide +kernel) rfl
theorem u57 : (Cond.methodLink "SmokeTalk" (1 : Nat) ({ cls := "java/lang/Object", name := "<init>", desc := "()V" } : MethodName)) ∈ UU := uu 57 (by decide +kernel) rfl
theorem u58 : (Cond.instanceMethod ({ cls := "java/lang/Object", name := "<init>", desc := "()V" } : MethodName)) ∈ UU := uu 58 (by decide +kernel) rfl
theorem u59 : (Cond.code ({ cls := "java/lang/Object", name := "<init>", desc := "()V" } : MethodName) object_method_1_code (1 : Nat) (Option.none : Option FieldType)) ∈ UU := uu 59 (by decide +kernel) rfl
theorem u60 : (Cond.classLink "SmokeTalk" (7 : Nat) "SmokeTalk$Text") ∈ UU := uu 60 (by decide +kernel) rfl
theorem u61 : (Cond.instantiable "SmokeTalk$Text" (6 : Nat)) ∈ UU := uu 61 (by decide +kernel) rfl
theorem u62 : (Cond.methodLink "SmokeTalk" (9 : Nat) ({ cls := "SmokeTalk$Text", name := "<init>", desc := "()V" } : MethodName)) ∈ UU := uu 62 (by decide +kernel) rfl
theorem u63 : (Cond.instanceMethod ({ cls := "SmokeTalk$Text", name := "<init>", desc := "()V" } : MethodName)) ∈ UU := uu 63 (by decide +kernel) rfl
theorem u64 : (Cond.code ({ cls := "SmokeTalk$Text", name := "<init>", desc := "()V" } : MethodName) prog_7_method_1_code (1 : Nat) (Option.none : Option FieldType)) ∈ UU := uu 64 (by decide +kernel) rfl
theorem u65 : (Cond.methodLink "SmokeTalk$Text" (3 : Nat) ({ cls := "java/lang/Object", name := "<init>", desc := "()V" } : MethodName)) ∈ UU := uu 65 (by decide +kernel) rfl
theorem u66 : (Cond.fieldLink "SmokeTalk$Text" (9 : Nat) "SmokeTalk$Text" "bytes" "[I") ∈ UU := uu 66 (by decide +kernel) rfl
theorem u67 : (Cond.fieldLink "SmokeTalk$Text" (15 : Nat) "SmokeTalk$Text" "length" "I") ∈ UU := uu 67 (by decide +kernel) rfl
theorem u68 : (Cond.fieldLink "SmokeTalk" (65 : Nat) "SmokeTalk$Text" "length" "I") ∈ UU := uu 68 (by decide +kernel) rfl
theorem u69 : (Cond.fieldLink "SmokeTalk$Text" (19 : Nat) "SmokeTalk$Text" "at" "I") ∈ UU := uu 69 (by decide +kernel) rfl
theorem u70 : (Cond.fieldLink "SmokeTalk" (77 : Nat) "SmokeTalk$Text" "start" "I") ∈ UU := uu 70 (by decide +kernel) rfl
theorem u71 : (Cond.fieldLink "SmokeTalk$Text" (25 : Nat) "SmokeTalk$Text" "start" "I") ∈ UU := uu 71 (by decide +kernel) rfl
theorem u72 : (Cond.fieldLink "SmokeTalk$Telling" (51 : Nat) "SmokeTalk$Text" "token" "I") ∈ UU := uu 72 (by decide +kernel) rfl
theorem u73 : (Cond.fieldLink "SmokeTalk$Text" (31 : Nat) "SmokeTalk$Text" "token" "I") ∈ UU := uu 73 (by decide +kernel) rfl
theorem u74 : (Cond.fieldLink "SmokeTalk$Telling" (69 : Nat) "SmokeTalk$Text" "number" "I") ∈ UU := uu 74 (by decide +kernel) rfl
theorem u75 : (Cond.fieldLink "SmokeTalk$Text" (28 : Nat) "SmokeTalk$Text" "number" "I") ∈ UU := uu 75 (by decide +kernel) rfl
theorem u89 : (Cond.arrayClass FieldType.int) ∈ UU := uu 89 (by decide +kernel) rfl
theorem u90 : (Cond.classLink "SmokeTalk" (16 : Nat) "SmokeTalk$Telling") ∈ UU := uu 90 (by decide +kernel) rfl
theorem u91 : (Cond.instantiable "SmokeTalk$Telling" (4 : Nat)) ∈ UU := uu 91 (by decide +kernel) rfl
theorem u92 : (Cond.methodLink "SmokeTalk" (18 : Nat) ({ cls := "SmokeTalk$Telling", name := "<init>", desc := "()V" } : MethodName)) ∈ UU := uu 92 (by decide +kernel) rfl
theorem u93 : (Cond.instanceMethod ({ cls := "SmokeTalk$Telling", name := "<init>", desc := "()V" } : MethodName)) ∈ UU := uu 93 (by decide +kernel) rfl
theorem u94 : (Cond.code ({ cls := "SmokeTalk$Telling", name := "<init>", desc := "()V" } : MethodName) prog_6_method_1_code (1 : Nat) (Option.none : Option FieldType)) ∈ UU := uu 94 (by decide +kernel) rfl
theorem u95 : (Cond.methodLink "SmokeTalk$Telling" (3 : Nat) ({ cls := "java/lang/Object", name := "<init>", desc := "()V" } : MethodName)) ∈ UU := uu 95 (by decide +kernel) rfl
theorem u96 : (Cond.classLink "SmokeTalk$Telling" (9 : Nat) "SmokeTalk$Menu") ∈ UU := uu 96 (by decide +kernel) rfl
theorem u97 : (Cond.instantiable "SmokeTalk$Menu" (5 : Nat)) ∈ UU := uu 97 (by decide +kernel) rfl
theorem u98 : (Cond.methodLink "SmokeTalk$Telling" (11 : Nat) ({ cls := "SmokeTalk$Menu", name := "<init>", desc := "()V" } : MethodName)) ∈ UU := uu 98 (by decide +kernel) rfl
theorem u99 : (Cond.instanceMethod ({ cls := "SmokeTalk$Menu", name := "<init>", desc := "()V" } : MethodName)) ∈ UU := uu 99 (by decide +kernel) rfl
theorem u100 : (Cond.code ({ cls := "SmokeTalk$Menu", name := "<init>", desc := "()V" } : MethodName) prog_3_method_1_code (1 : Nat) (Option.none : Option FieldType)) ∈ UU := uu 100 (by decide +kernel) rfl
theorem u101 : (Cond.methodLink "SmokeTalk$Menu" (3 : Nat) ({ cls := "java/lang/Object", name := "<init>", desc := "()V" } : MethodName)) ∈ UU := uu 101 (by decide +kernel) rfl
theorem u102 : (Cond.fieldLink "SmokeTalk$Menu" (9 : Nat) "SmokeTalk$Menu" "needs" "[I") ∈ UU := uu 102 (by decide +kernel) rfl
theorem u103 : (Cond.fieldLink "SmokeTalk$Menu" (15 : Nat) "SmokeTalk$Menu" "units" "[I") ∈ UU := uu 103 (by decide +kernel) rfl
theorem u104 : (Cond.fieldLink "SmokeTalk$Speech" (65 : Nat) "SmokeTalk$Menu" "units" "[I") ∈ UU := uu 104 (by decide +kernel) rfl
theorem u105 : (Cond.fieldLink "SmokeTalk" (122 : Nat) "SmokeTalk$Menu" "units" "[I") ∈ UU := uu 105 (by decide +kernel) rfl
theorem u106 : (Cond.fieldLink "SmokeTalk$Menu" (18 : Nat) "SmokeTalk$Menu" "smokes" "[I") ∈ UU := uu 106 (by decide +kernel) rfl
theorem u107 : (Cond.fieldLink "SmokeTalk$Chain" (31 : Nat) "SmokeTalk$Menu" "smokes" "[I") ∈ UU := uu 107 (by decide +kernel) rfl
theorem u108 : (Cond.fieldLink "SmokeTalk" (116 : Nat) "SmokeTalk$Menu" "smokes" "[I") ∈ UU := uu 108 (by decide +kernel) rfl
theorem u109 : (Cond.fieldLink "SmokeTalk$Menu" (21 : Nat) "SmokeTalk$Menu" "words" "[I") ∈ UU := uu 109 (by decide +kernel) rfl
theorem u110 : (Cond.fieldLink "SmokeTalk$Speech" (54 : Nat) "SmokeTalk$Menu" "words" "[I") ∈ UU := uu 110 (by decide +kernel) rfl
theorem u111 : (Cond.fieldLink "SmokeTalk" (119 : Nat) "SmokeTalk$Menu" "words" "[I") ∈ UU := uu 111 (by decide +kernel) rfl
theorem u112 : (Cond.fieldLink "SmokeTalk$Menu" (24 : Nat) "SmokeTalk$Menu" "dishes" "I") ∈ UU := uu 112 (by decide +kernel) rfl
theorem u113 : (Cond.fieldLink "SmokeTalk$Telling" (33 : Nat) "SmokeTalk$Menu" "dishes" "I") ∈ UU := uu 113 (by decide +kernel) rfl
theorem u114 : (Cond.fieldLink "SmokeTalk$Speech" (49 : Nat) "SmokeTalk$Menu" "dishes" "I") ∈ UU := uu 114 (by decide +kernel) rfl
theorem u115 : (Cond.fieldLink "SmokeTalk" (234 : Nat) "SmokeTalk$Menu" "dishes" "I") ∈ UU := uu 115 (by decide +kernel) rfl
theorem u127 : (Cond.classLink "SmokeTalk$Telling" (18 : Nat) "SmokeTalk$Suppers") ∈ UU := uu 127 (by decide +kernel) rfl
theorem u128 : (Cond.instantiable "SmokeTalk$Suppers" (8 : Nat)) ∈ UU := uu 128 (by decide +kernel) rfl
theorem u129 : (Cond.methodLink "SmokeTalk$Telling" (20 : Nat) ({ cls := "SmokeTalk$Suppers", name := "<init>", desc := "()V" } : MethodName)) ∈ UU := uu 129 (by decide +kernel) rfl
theorem u130 : (Cond.instanceMethod ({ cls := "SmokeTalk$Suppers", name := "<init>", desc := "()V" } : MethodName)) ∈ UU := uu 130 (by decide +kernel) rfl
theorem u131 : (Cond.code ({ cls := "SmokeTalk$Suppers", name := "<init>", desc := "()V" } : MethodName) prog_5_method_1_code (1 : Nat) (Option.none : Option FieldType)) ∈ UU := uu 131 (by decide +kernel) rfl
theorem u132 : (Cond.methodLink "SmokeTalk$Suppers" (3 : Nat) ({ cls := "java/lang/Object", name := "<init>", desc := "()V" } : MethodName)) ∈ UU := uu 132 (by decide +kernel) rfl
theorem u133 : (Cond.fieldLink "SmokeTalk$Suppers" (9 : Nat) "SmokeTalk$Suppers" "larders" "[I") ∈ UU := uu 133 (by decide +kernel) rfl
theorem u134 : (Cond.fieldLink "SmokeTalk$Suppers" (15 : Nat) "SmokeTalk$Suppers" "plumeHouses" "[I") ∈ UU := uu 134 (by decide +kernel) rfl
theorem u135 : (Cond.fieldLink "SmokeTalk" (140 : Nat) "SmokeTalk$Suppers" "plumeHouses" "[I") ∈ UU := uu 135 (by decide +kernel) rfl
theorem u136 : (Cond.fieldLink "SmokeTalk$Suppers" (18 : Nat) "SmokeTalk$Suppers" "plumeDishes" "[I") ∈ UU := uu 136 (by decide +kernel) rfl
theorem u137 : (Cond.fieldLink "SmokeTalk" (143 : Nat) "SmokeTalk$Suppers" "plumeDishes" "[I") ∈ UU := uu 137 (by decide +kernel) rfl
theorem u138 : (Cond.fieldLink "SmokeTalk$Suppers" (21 : Nat) "SmokeTalk$Suppers" "houses" "I") ∈ UU := uu 138 (by decide +kernel) rfl
theorem u139 : (Cond.fieldLink "SmokeTalk$Telling" (37 : Nat) "SmokeTalk$Suppers" "houses" "I") ∈ UU := uu 139 (by decide +kernel) rfl
theorem u140 : (Cond.fieldLink "SmokeTalk" (216 : Nat) "SmokeTalk$Suppers" "houses" "I") ∈ UU := uu 140 (by decide +kernel) rfl
theorem u141 : (Cond.fieldLink "SmokeTalk$Suppers" (25 : Nat) "SmokeTalk$Suppers" "plumes" "I") ∈ UU := uu 141 (by decide +kernel) rfl
theorem u142 : (Cond.fieldLink "SmokeTalk$Telling" (40 : Nat) "SmokeTalk$Suppers" "plumes" "I") ∈ UU := uu 142 (by decide +kernel) rfl
theorem u143 : (Cond.fieldLink "SmokeTalk" (129 : Nat) "SmokeTalk$Suppers" "plumes" "I") ∈ UU := uu 143 (by decide +kernel) rfl
theorem u144 : (Cond.fieldLink "SmokeTalk$Suppers" (28 : Nat) "SmokeTalk$Suppers" "haze" "I") ∈ UU := uu 144 (by decide +kernel) rfl
theorem u145 : (Cond.fieldLink "SmokeTalk$Telling" (43 : Nat) "SmokeTalk$Suppers" "haze" "I") ∈ UU := uu 145 (by decide +kernel) rfl
theorem u146 : (Cond.fieldLink "SmokeTalk" (151 : Nat) "SmokeTalk$Suppers" "haze" "I") ∈ UU := uu 146 (by decide +kernel) rfl
theorem u147 : (Cond.fieldLink "SmokeTalk$Suppers" (31 : Nat) "SmokeTalk$Suppers" "lottery" "I") ∈ UU := uu 147 (by decide +kernel) rfl
theorem u148 : (Cond.fieldLink "SmokeTalk" (88 : Nat) "SmokeTalk$Suppers" "lottery" "I") ∈ UU := uu 148 (by decide +kernel) rfl
theorem u149 : (Cond.fieldLink "SmokeTalk$Suppers" (34 : Nat) "SmokeTalk$Suppers" "kept" "Z") ∈ UU := uu 149 (by decide +kernel) rfl
theorem u150 : (Cond.fieldLink "SmokeTalk" (94 : Nat) "SmokeTalk$Suppers" "kept" "Z") ∈ UU := uu 150 (by decide +kernel) rfl
theorem u168 : (Cond.fieldLink "SmokeTalk$Telling" (12 : Nat) "SmokeTalk$Telling" "menu" "LSmokeTalk$Menu;") ∈ UU := uu 168 (by decide +kernel) rfl
theorem u169 : (Cond.fieldLink "SmokeTalk" (80 : Nat) "SmokeTalk$Telling" "menu" "LSmokeTalk$Menu;") ∈ UU := uu 169 (by decide +kernel) rfl
theorem u170 : (Cond.fieldLink "SmokeTalk$Telling" (21 : Nat) "SmokeTalk$Telling" "suppers" "LSmokeTalk$Suppers;") ∈ UU := uu 170 (by decide +kernel) rfl
theorem u171 : (Cond.fieldLink "SmokeTalk" (85 : Nat) "SmokeTalk$Telling" "suppers" "LSmokeTalk$Suppers;") ∈ UU := uu 171 (by decide +kernel) rfl
theorem u172 : (Cond.fieldLink "SmokeTalk$Telling" (25 : Nat) "SmokeTalk$Telling" "numbers" "[I") ∈ UU := uu 172 (by decide +kernel) rfl
theorem u173 : (Cond.fieldLink "SmokeTalk$Telling" (29 : Nat) "SmokeTalk$Telling" "fogTold" "Z") ∈ UU := uu 173 (by decide +kernel) rfl
theorem u183 : (Cond.classLink "SmokeTalk" (23 : Nat) "SmokeTalk$Menu") ∈ UU := uu 183 (by decide +kernel) rfl
theorem u184 : (Cond.methodLink "SmokeTalk" (25 : Nat) ({ cls := "SmokeTalk$Menu", name := "<init>", desc := "()V" } : MethodName)) ∈ UU := uu 184 (by decide +kernel) rfl
theorem u185 : (Cond.classLink "SmokeTalk" (30 : Nat) "SmokeTalk$Suppers") ∈ UU := uu 185 (by decide +kernel) rfl
theorem u186 : (Cond.methodLink "SmokeTalk" (32 : Nat) ({ cls := "SmokeTalk$Suppers", name := "<init>", desc := "()V" } : MethodName)) ∈ UU := uu 186 (by decide +kernel) rfl
theorem u187 : (Cond.classLink "SmokeTalk" (43 : Nat) "SmokeTalk$Speech") ∈ UU := uu 187 (by decide +kernel) rfl
theorem u188 : (Cond.instantiable "SmokeTalk$Speech" (6 : Nat)) ∈ UU := uu 188 (by decide +kernel) rfl
theorem u189 : (Cond.methodLink "SmokeTalk" (45 : Nat) ({ cls := "SmokeTalk$Speech", name := "<init>", desc := "()V" } : MethodName)) ∈ UU := uu 189 (by decide +kernel) rfl
theorem u190 : (Cond.instanceMethod ({ cls := "SmokeTalk$Speech", name := "<init>", desc := "()V" } : MethodName)) ∈ UU := uu 190 (by decide +kernel) rfl
theorem u191 : (Cond.code ({ cls := "SmokeTalk$Speech", name := "<init>", desc := "()V" } : MethodName) prog_4_method_1_code (1 : Nat) (Option.none : Option FieldType)) ∈ UU := uu 191 (by decide +kernel) rfl
theorem u192 : (Cond.methodLink "SmokeTalk$Speech" (3 : Nat) ({ cls := "java/lang/Object", name := "<init>", desc := "()V" } : MethodName)) ∈ UU := uu 192 (by decide +kernel) rfl
theorem u193 : (Cond.fieldLink "SmokeTalk$Speech" (9 : Nat) "SmokeTalk$Speech" "row" "[I") ∈ UU := uu 193 (by decide +kernel) rfl
theorem u194 : (Cond.fieldLink "SmokeTalk$Speech" (15 : Nat) "SmokeTalk$Speech" "chosen" "[I") ∈ UU := uu 194 (by decide +kernel) rfl
theorem u195 : (Cond.fieldLink "SmokeTalk$Speech" (18 : Nat) "SmokeTalk$Speech" "best" "[I") ∈ UU := uu 195 (by decide +kernel) rfl
theorem u196 : (Cond.fieldLink "SmokeTalk" (175 : Nat) "SmokeTalk$Speech" "best" "[I") ∈ UU := uu 196 (by decide +kernel) rfl
theorem u197 : (Cond.fieldLink "SmokeTalk$Speech" (21 : Nat) "SmokeTalk$Speech" "left" "[I") ∈ UU := uu 197 (by decide +kernel) rfl
theorem u198 : (Cond.fieldLink "SmokeTalk" (161 : Nat) "SmokeTalk$Speech" "left" "[I") ∈ UU := uu 198 (by decide +kernel) rfl
theorem u199 : (Cond.fieldLink "SmokeTalk$Speech" (24 : Nat) "SmokeTalk$Speech" "told" "I") ∈ UU := uu 199 (by decide +kernel) rfl
theorem u200 : (Cond.fieldLink "SmokeTalk" (172 : Nat) "SmokeTalk$Speech" "told" "I") ∈ UU := uu 200 (by decide +kernel) rfl
theorem u201 : (Cond.fieldLink "SmokeTalk$Speech" (28 : Nat) "SmokeTalk$Speech" "fewest" "I") ∈ UU := uu 201 (by decide +kernel) rfl
theorem u215 : (Cond.classLink "SmokeTalk" (50 : Nat) "SmokeTalk$Chain") ∈ UU := uu 215 (by decide +kernel) rfl
theorem u216 : (Cond.instantiable "SmokeTalk$Chain" (2 : Nat)) ∈ UU := uu 216 (by decide +kernel) rfl
theorem u217 : (Cond.methodLink "SmokeTalk" (52 : Nat) ({ cls := "SmokeTalk$Chain", name := "<init>", desc := "()V" } : MethodName)) ∈ UU := uu 217 (by decide +kernel) rfl
theorem u218 : (Cond.instanceMethod ({ cls := "SmokeTalk$Chain", name := "<init>", desc := "()V" } : MethodName)) ∈ UU := uu 218 (by decide +kernel) rfl
theorem u219 : (Cond.code ({ cls := "SmokeTalk$Chain", name := "<init>", desc := "()V" } : MethodName) prog_2_method_1_code (1 : Nat) (Option.none : Option FieldType)) ∈ UU := uu 219 (by decide +kernel) rfl
theorem u220 : (Cond.methodLink "SmokeTalk$Chain" (3 : Nat) ({ cls := "java/lang/Object", name := "<init>", desc := "()V" } : MethodName)) ∈ UU := uu 220 (by decide +kernel) rfl
theorem u221 : (Cond.fieldLink "SmokeTalk$Chain" (9 : Nat) "SmokeTalk$Chain" "meant" "[J") ∈ UU := uu 221 (by decide +kernel) rfl
theorem u222 : (Cond.fieldLink "SmokeTalk" (212 : Nat) "SmokeTalk$Chain" "meant" "[J") ∈ UU := uu 222 (by decide +kernel) rfl
theorem u223 : (Cond.fieldLink "SmokeTalk$Chain" (15 : Nat) "SmokeTalk$Chain" "next" "[J") ∈ UU := uu 223 (by decide +kernel) rfl
theorem u229 : (Cond.arrayClass FieldType.long) ∈ UU := uu 229 (by decide +kernel) rfl
theorem u230 : (Cond.fieldLink "SmokeTalk" (10 : Nat) "SmokeTalk" "text" "LSmokeTalk$Text;") ∈ UU := uu 230 (by decide +kernel) rfl
theorem u231 : (Cond.fieldLink "SmokeTalk" (19 : Nat) "SmokeTalk" "telling" "LSmokeTalk$Telling;") ∈ UU := uu 231 (by decide +kernel) rfl
theorem u232 : (Cond.fieldLink "SmokeTalk" (26 : Nat) "SmokeTalk" "menu" "LSmokeTalk$Menu;") ∈ UU := uu 232 (by decide +kernel) rfl
theorem u233 : (Cond.fieldLink "SmokeTalk" (33 : Nat) "SmokeTalk" "now" "LSmokeTalk$Suppers;") ∈ UU := uu 233 (by decide +kernel) rfl
theorem u234 : (Cond.fieldLink "SmokeTalk" (37 : Nat) "SmokeTalk" "firstImage" "LSmokeTalk$Suppers;") ∈ UU := uu 234 (by decide +kernel) rfl
theorem u235 : (Cond.fieldLink "SmokeTalk" (40 : Nat) "SmokeTalk" "secondImage" "LSmokeTalk$Suppers;") ∈ UU := uu 235 (by decide +kernel) rfl
theorem u236 : (Cond.fieldLink "SmokeTalk" (46 : Nat) "SmokeTalk" "speech" "LSmokeTalk$Speech;") ∈ UU := uu 236 (by decide +kernel) rfl
theorem u237 : (Cond.fieldLink "SmokeTalk" (53 : Nat) "SmokeTalk" "links" "LSmokeTalk$Chain;") ∈ UU := uu 237 (by decide +kernel) rfl
theorem u238 : (Cond.fieldLink "SmokeTalk" (57 : Nat) "SmokeTalk" "pot" "[I") ∈ UU := uu 238 (by decide +kernel) rfl
theorem u239 : (Cond.fieldLink "SmokeTalk" (61 : Nat) "SmokeTalk" "traced" "J") ∈ UU := uu 239 (by decide +kernel) rfl
theorem u261 : (Cond.methodLink "SmokeTalkLaw" (15 : Nat) ({ cls := "SmokeTalk", name := "type", desc := "(JI)I" } : MethodName)) ∈ UU := uu 261 (by decide +kernel) rfl
theorem u262 : (Cond.instanceMethod ({ cls := "SmokeTalk", name := "type", desc := "(JI)I" } : MethodName)) ∈ UU := uu 262 (by decide +kernel) rfl
theorem u263 : (Cond.selects "SmokeTalk" ({ cls := "SmokeTalk", name := "type", desc := "(JI)I" } : MethodName) ({ cls := "SmokeTalk", name := "type", desc := "(JI)I" } : MethodName)) ∈ UU := uu 263 (by decide +kernel) rfl
theorem u264 : (Cond.code ({ cls := "SmokeTalk", name := "type", desc := "(JI)I" } : MethodName) prog_1_method_2_code (5 : Nat) (Option.some FieldType.int)) ∈ UU := uu 264 (by decide +kernel) rfl
theorem u265 : (Cond.methodLink "SmokeTalk" (69 : Nat) ({ cls := "SmokeTalk$Text", name := "append", desc := "(I)V" } : MethodName)) ∈ UU := uu 265 (by decide +kernel) rfl
theorem u266 : (Cond.instanceMethod ({ cls := "SmokeTalk$Text", name := "append", desc := "(I)V" } : MethodName)) ∈ UU := uu 266 (by decide +kernel) rfl
theorem u267 : (Cond.selects "SmokeTalk$Text" ({ cls := "SmokeTalk$Text", name := "append", desc := "(I)V" } : MethodName) ({ cls := "SmokeTalk$Text", name := "append", desc := "(I)V" } : MethodName)) ∈ UU := uu 267 (by decide +kernel) rfl
theorem u268 : (Cond.code ({ cls := "SmokeTalk$Text", name := "append", desc := "(I)V" } : MethodName) prog_7_method_2_code (2 : Nat) (Option.none : Option FieldType)) ∈ UU := uu 268 (by decide +kernel) rfl
theorem u269 : (Cond.methodLink "SmokeTalkLaw" (20 : Nat) ({ cls := "SmokeTalk", name := "clear", desc := "()I" } : MethodName)) ∈ UU := uu 269 (by decide +kernel) rfl
theorem u270 : (Cond.instanceMethod ({ cls := "SmokeTalk", name := "clear", desc := "()I" } : MethodName)) ∈ UU := uu 270 (by decide +kernel) rfl
theorem u271 : (Cond.selects "SmokeTalk" ({ cls := "SmokeTalk", name := "clear", desc := "()I" } : MethodName) ({ cls := "SmokeTalk", name := "clear", desc := "()I" } : MethodName)) ∈ UU := uu 271 (by decide +kernel) rfl
theorem u272 : (Cond.code ({ cls := "SmokeTalk", name := "clear", desc := "()I" } : MethodName) prog_1_method_3_code (2 : Nat) (Option.some FieldType.int)) ∈ UU := uu 272 (by decide +kernel) rfl
theorem u273 : (Cond.methodLink "SmokeTalkLaw" (25 : Nat) ({ cls := "SmokeTalk", name := "valley", desc := "()I" } : MethodName)) ∈ UU := uu 273 (by decide +kernel) rfl
theorem u274 : (Cond.instanceMethod ({ cls := "SmokeTalk", name := "valley", desc := "()I" } : MethodName)) ∈ UU := uu 274 (by decide +kernel) rfl
theorem u275 : (Cond.selects "SmokeTalk" ({ cls := "SmokeTalk", name := "valley", desc := "()I" } : MethodName) ({ cls := "SmokeTalk", name := "valley", desc := "()I" } : MethodName)) ∈ UU := uu 275 (by decide +kernel) rfl
theorem u276 : (Cond.code ({ cls := "SmokeTalk", name := "valley", desc := "()I" } : MethodName) prog_1_method_4_code (2 : Nat) (Option.some FieldType.int)) ∈ UU := uu 276 (by decide +kernel) rfl
theorem u277 : (Cond.methodLink "SmokeTalk" (73 : Nat) ({ cls := "SmokeTalk$Telling", name := "readAll", desc := "(LSmokeTalk$Text;)I" } : MethodName)) ∈ UU := uu 277 (by decide +kernel) rfl
theorem u278 : (Cond.instanceMethod ({ cls := "SmokeTalk$Telling", name := "readAll", desc := "(LSmokeTalk$Text;)I" } : MethodName)) ∈ UU := uu 278 (by decide +kernel) rfl
theorem u279 : (Cond.selects "SmokeTalk$Telling" ({ cls := "SmokeTalk$Telling", name := "readAll", desc := "(LSmokeTalk$Text;)I" } : MethodName) ({ cls := "SmokeTalk$Telling", name := "readAll", desc := "(LSmokeTalk$Text;)I" } : MethodName)) ∈ UU := uu 279 (by decide +kernel) rfl
theorem u280 : (Cond.code ({ cls := "SmokeTalk$Telling", name := "readAll", desc := "(LSmokeTalk$Text;)I" } : MethodName) prog_6_method_2_code (3 : Nat) (Option.some FieldType.int)) ∈ UU := uu 280 (by decide +kernel) rfl
theorem u281 : (Cond.methodLink "SmokeTalk$Telling" (46 : Nat) ({ cls := "SmokeTalk$Text", name := "rewind", desc := "()V" } : MethodName)) ∈ UU := uu 281 (by decide +kernel) rfl
theorem u282 : (Cond.instanceMethod ({ cls := "SmokeTalk$Text", name := "rewind", desc := "()V" } : MethodName)) ∈ UU := uu 282 (by decide +kernel) rfl
theorem u283 : (Cond.selects "SmokeTalk$Text" ({ cls := "SmokeTalk$Text", name := "rewind", desc := "()V" } : MethodName) ({ cls := "SmokeTalk$Text", name := "rewind", desc := "()V" } : MethodName)) ∈ UU := uu 283 (by decide +kernel) rfl
theorem u284 : (Cond.code ({ cls := "SmokeTalk$Text", name := "rewind", desc := "()V" } : MethodName) prog_7_method_3_code (1 : Nat) (Option.none : Option FieldType)) ∈ UU := uu 284 (by decide +kernel) rfl
theorem u285 : (Cond.methodLink "SmokeTalk$Text" (22 : Nat) ({ cls := "SmokeTalk$Text", name := "step", desc := "()V" } : MethodName)) ∈ UU := uu 285 (by decide +kernel) rfl
theorem u286 : (Cond.instanceMethod ({ cls := "SmokeTalk$Text", name := "step", desc := "()V" } : MethodName)) ∈ UU := uu 286 (by decide +kernel) rfl
theorem u287 : (Cond.selects "SmokeTalk$Text" ({ cls := "SmokeTalk$Text", name := "step", desc := "()V" } : MethodName) ({ cls := "SmokeTalk$Text", name := "step", desc := "()V" } : MethodName)) ∈ UU := uu 287 (by decide +kernel) rfl
theorem u288 : (Cond.code ({ cls := "SmokeTalk$Text", name := "step", desc := "()V" } : MethodName) prog_7_method_4_code (1 : Nat) (Option.none : Option FieldType)) ∈ UU := uu 288 (by decide +kernel) rfl
theorem u289 : (Cond.methodLink "SmokeTalk$Text" (34 : Nat) ({ cls := "SmokeTalk$Text", name := "isDigit", desc := "(I)Z" } : MethodName)) ∈ UU := uu 289 (by decide +kernel) rfl
theorem u290 : (Cond.static ({ cls := "SmokeTalk$Text", name := "isDigit", desc := "(I)Z" } : MethodName)) ∈ UU := uu 290 (by decide +kernel) rfl
theorem u291 : (Cond.code ({ cls := "SmokeTalk$Text", name := "isDigit", desc := "(I)Z" } : MethodName) prog_7_method_8_code (1 : Nat) (Option.some FieldType.boolean)) ∈ UU := uu 291 (by decide +kernel) rfl
theorem u292 : (Cond.methodLink "SmokeTalk$Text" (38 : Nat) ({ cls := "SmokeTalk$Text", name := "readNumber", desc := "()I" } : MethodName)) ∈ UU := uu 292 (by decide +kernel) rfl
theorem u294 : (Cond.instanceMethod ({ cls := "SmokeTalk$Text", name := "readNumber", desc := "()I" } : MethodName)) ∈ UU := uu 294 (by decide +kernel) rfl
theorem u295 : (Cond.code ({ cls := "SmokeTalk$Text", name := "readNumber", desc := "()I" } : MethodName) prog_7_method_5_code (3 : Nat) (Option.some FieldType.int)) ∈ UU := uu 295 (by decide +kernel) rfl
theorem u296 : (Cond.methodLink "SmokeTalk$Text" (42 : Nat) ({ cls := "SmokeTalk$Text", name := "isLetter", desc := "(I)Z" } : MethodName)) ∈ UU := uu 296 (by decide +kernel) rfl
theorem u297 : (Cond.static ({ cls := "SmokeTalk$Text", name := "isLetter", desc := "(I)Z" } : MethodName)) ∈ UU := uu 297 (by decide +kernel) rfl
theorem u298 : (Cond.code ({ cls := "SmokeTalk$Text", name := "isLetter", desc := "(I)Z" } : MethodName) prog_7_method_9_code (1 : Nat) (Option.some FieldType.boolean)) ∈ UU := uu 298 (by decide +kernel) rfl
theorem u299 : (Cond.methodLink "SmokeTalk$Text" (45 : Nat) ({ cls := "SmokeTalk$Text", name := "readName", desc := "()I" } : MethodName)) ∈ UU := uu 299 (by decide +kernel) rfl
theorem u301 : (Cond.instanceMethod ({ cls := "SmokeTalk$Text", name := "readName", desc := "()I" } : MethodName)) ∈ UU := uu 301 (by decide +kernel) rfl
theorem u302 : (Cond.code ({ cls := "SmokeTalk$Text", name := "readName", desc := "()I" } : MethodName) prog_7_method_6_code (1 : Nat) (Option.some FieldType.int)) ∈ UU := uu 302 (by decide +kernel) rfl
theorem u304 : (Cond.methodLink "SmokeTalk$Text" (50 : Nat) ({ cls := "SmokeTalk$Text", name := "spells", desc := "(Ljava/lang/String;)Z" } : MethodName)) ∈ UU := uu 304 (by decide +kernel) rfl
theorem u306 : (Cond.instanceMethod ({ cls := "SmokeTalk$Text", name := "spells", desc := "(Ljava/lang/String;)Z" } : MethodName)) ∈ UU := uu 306 (by decide +kernel) rfl
theorem u307 : (Cond.code ({ cls := "SmokeTalk$Text", name := "spells", desc := "(Ljava/lang/String;)Z" } : MethodName) prog_7_method_7_code (3 : Nat) (Option.some FieldType.boolean)) ∈ UU := uu 307 (by decide +kernel) rfl
theorem u308 : (Cond.methodLink "SmokeTalk$Text" (58 : Nat) ({ cls := "java/lang/String", name := "length", desc := "()I" } : MethodName)) ∈ UU := uu 308 (by decide +kernel) rfl
theorem u309 : (Cond.instanceMethod ({ cls := "java/lang/String", name := "length", desc := "()I" } : MethodName)) ∈ UU := uu 309 (by decide +kernel) rfl
theorem u310 : (Cond.selects "java/lang/String" ({ cls := "java/lang/String", name := "length", desc := "()I" } : MethodName) ({ cls := "java/lang/String", name := "length", desc := "()I" } : MethodName)) ∈ UU := uu 310 (by decide +kernel) rfl
theorem u311 : (Cond.code ({ cls := "java/lang/String", name := "length", desc := "()I" } : MethodName) prog_12_method_54_code (1 : Nat) (Option.some FieldType.int)) ∈ UU := uu 311 (by decide +kernel) rfl
theorem u312 : (Cond.methodLink "java/lang/String" (335 : Nat) ({ cls := "java/lang/String", name := "coder", desc := "()B" } : MethodName)) ∈ UU := uu 312 (by decide +kernel) rfl
theorem u313 : (Cond.instanceMethod ({ cls := "java/lang/String", name := "coder", desc := "()B" } : MethodName)) ∈ UU := uu 313 (by decide +kernel) rfl
theorem u314 : (Cond.selects "java/lang/String" ({ cls := "java/lang/String", name := "coder", desc := "()B" } : MethodName) ({ cls := "java/lang/String", name := "coder", desc := "()B" } : MethodName)) ∈ UU := uu 314 (by decide +kernel) rfl
theorem u315 : (Cond.code ({ cls := "java/lang/String", name := "coder", desc := "()B" } : MethodName) prog_12_method_152_code (1 : Nat) (Option.some FieldType.byte)) ∈ UU := uu 315 (by decide +kernel) rfl
theorem u316 : (Cond.fieldLink "java/lang/String" (38 : Nat) "java/lang/String" "COMPACT_STRINGS" "Z") ∈ UU := uu 316 (by decide +kernel) rfl
theorem u318 : (Cond.methodLink "SmokeTalk$Text" (62 : Nat) ({ cls := "java/lang/String", name := "charAt", desc := "(I)C" } : MethodName)) ∈ UU := uu 318 (by decide +kernel) rfl
theorem u319 : (Cond.instanceMethod ({ cls := "java/lang/String", name := "charAt", desc := "(I)C" } : MethodName)) ∈ UU := uu 319 (by decide +kernel) rfl
theorem u320 : (Cond.selects "java/lang/String" ({ cls := "java/lang/String", name := "charAt", desc := "(I)C" } : MethodName) ({ cls := "java/lang/String", name := "charAt", desc := "(I)C" } : MethodName)) ∈ UU := uu 320 (by decide +kernel) rfl
theorem u321 : (Cond.code ({ cls := "java/lang/String", name := "charAt", desc := "(I)C" } : MethodName) prog_12_method_56_code (2 : Nat) (Option.some FieldType.char)) ∈ UU := uu 321 (by decide +kernel) rfl
theorem u322 : (Cond.methodLink "java/lang/String" (492 : Nat) ({ cls := "java/lang/String", name := "isLatin1", desc := "()Z" } : MethodName)) ∈ UU := uu 322 (by decide +kernel) rfl
theorem u323 : (Cond.instanceMethod ({ cls := "java/lang/String", name := "isLatin1", desc := "()Z" } : MethodName)) ∈ UU := uu 323 (by decide +kernel) rfl
theorem u324 : (Cond.selects "java/lang/String" ({ cls := "java/lang/String", name := "isLatin1", desc := "()Z" } : MethodName) ({ cls := "java/lang/String", name := "isLatin1", desc := "()Z" } : MethodName)) ∈ UU := uu 324 (by decide +kernel) rfl
theorem u325 : (Cond.code ({ cls := "java/lang/String", name := "isLatin1", desc := "()Z" } : MethodName) prog_12_method_154_code (1 : Nat) (Option.some FieldType.boolean)) ∈ UU := uu 325 (by decide +kernel) rfl
theorem u326 : (Cond.methodLink "java/lang/String" (495 : Nat) ({ cls := "java/lang/StringLatin1", name := "charAt", desc := "([BI)C" } : MethodName)) ∈ UU := uu 326 (by decide +kernel) rfl
theorem u327 : (Cond.static ({ cls := "java/lang/StringLatin1", name := "charAt", desc := "([BI)C" } : MethodName)) ∈ UU := uu 327 (by decide +kernel) rfl
theorem u328 : (Cond.code ({ cls := "java/lang/StringLatin1", name := "charAt", desc := "([BI)C" } : MethodName) prog_13_method_2_code (2 : Nat) (Option.some FieldType.char)) ∈ UU := uu 328 (by decide +kernel) rfl
theorem u329 : (Cond.methodLink "java/lang/StringLatin1" (9 : Nat) ({ cls := "java/lang/String", name := "checkIndex", desc := "(II)V" } : MethodName)) ∈ UU := uu 329 (by decide +kernel) rfl
theorem u330 : (Cond.static ({ cls := "java/lang/String", name := "checkIndex", desc := "(II)V" } : MethodName)) ∈ UU := uu 330 (by decide +kernel) rfl
theorem u331 : (Cond.code ({ cls := "java/lang/String", name := "checkIndex", desc := "(II)V" } : MethodName) prog_12_method_155_code (2 : Nat) (Option.none : Option FieldType)) ∈ UU := uu 331 (by decide +kernel) rfl
theorem u332 : (Cond.fieldLink "java/lang/String" (1053 : Nat) "jdk/internal/util/Preconditions" "SIOOBE_FORMATTER" "Ljava/util/function/BiFunction;") ∈ UU := uu 332 (by decide +kernel) rfl
theorem u334 : (Cond.methodLink "java/lang/String" (1059 : Nat) ({ cls := "jdk/internal/util/Preconditions", name := "checkIndex", desc := "(IILjava/util/function/BiFunction;)I" } : MethodName)) ∈ UU := uu 334 (by decide +kernel) rfl
theorem u335 : (Cond.static ({ cls := "jdk/internal/util/Preconditions", name := "checkIndex", desc := "(IILjava/util/function/BiFunction;)I" } : MethodName)) ∈ UU := uu 335 (by decide +kernel) rfl
theorem u336 : (Cond.code ({ cls := "jdk/internal/util/Preconditions", name := "checkIndex", desc := "(IILjava/util/function/BiFunction;)I" } : MethodName) prog_15_method_11_code (3 : Nat) (Option.some FieldType.int)) ∈ UU := uu 336 (by decide +kernel) rfl
theorem u337 : (Cond.methodLink "java/lang/String" (498 : Nat) ({ cls := "java/lang/StringUTF16", name := "charAt", desc := "([BI)C" } : MethodName)) ∈ UU := uu 337 (by decide +kernel) rfl
theorem u338 : (Cond.static ({ cls := "java/lang/StringUTF16", name := "charAt", desc := "([BI)C" } : MethodName)) ∈ UU := uu 338 (by decide +kernel) rfl
theorem u339 : (Cond.code ({ cls := "java/lang/StringUTF16", name := "charAt", desc := "([BI)C" } : MethodName) prog_14_method_83_code (2 : Nat) (Option.some FieldType.char)) ∈ UU := uu 339 (by decide +kernel) rfl
theorem u340 : (Cond.methodLink "java/lang/StringUTF16" (67 : Nat) ({ cls := "java/lang/StringUTF16", name := "checkIndex", desc := "(I[B)V" } : MethodName)) ∈ UU := uu 340 (by decide +kernel) rfl
theorem u341 : (Cond.static ({ cls := "java/lang/StringUTF16", name := "checkIndex", desc := "(I[B)V" } : MethodName)) ∈ UU := uu 341 (by decide +kernel) rfl
theorem u342 : (Cond.code ({ cls := "java/lang/StringUTF16", name := "checkIndex", desc := "(I[B)V" } : MethodName) prog_14_method_91_code (2 : Nat) (Option.none : Option FieldType)) ∈ UU := uu 342 (by decide +kernel) rfl
theorem u343 : (Cond.methodLink "java/lang/StringUTF16" (48 : Nat) ({ cls := "java/lang/StringUTF16", name := "length", desc := "([B)I" } : MethodName)) ∈ UU := uu 343 (by decide +kernel) rfl
theorem u344 : (Cond.static ({ cls := "java/lang/StringUTF16", name := "length", desc := "([B)I" } : MethodName)) ∈ UU := uu 344 (by decide +kernel) rfl
theorem u345 : (Cond.code ({ cls := "java/lang/StringUTF16", name := "length", desc := "([B)I" } : MethodName) prog_14_method_6_code (1 : Nat) (Option.some FieldType.int)) ∈ UU := uu 345 (by decide +kernel) rfl
theorem u346 : (Cond.methodLink "java/lang/StringUTF16" (414 : Nat) ({ cls := "java/lang/String", name := "checkIndex", desc := "(II)V" } : MethodName)) ∈ UU := uu 346 (by decide +kernel) rfl
theorem u347 : (Cond.methodLink "java/lang/StringUTF16" (71 : Nat) ({ cls := "java/lang/StringUTF16", name := "getChar", desc := "([BI)C" } : MethodName)) ∈ UU := uu 347 (by decide +kernel) rfl
theorem u348 : (Cond.static ({ cls := "java/lang/StringUTF16", name := "getChar", desc := "([BI)C" } : MethodName)) ∈ UU := uu 348 (by decide +kernel) rfl
theorem u349 : (Cond.code ({ cls := "java/lang/StringUTF16", name := "getChar", desc := "([BI)C" } : MethodName) prog_14_method_5_code (2 : Nat) (Option.some FieldType.char)) ∈ UU := uu 349 (by decide +kernel) rfl
theorem u350 : (Cond.fieldLink "java/lang/StringUTF16" (44 : Nat) "java/lang/StringUTF16" "$assertionsDisabled" "Z") ∈ UU := uu 350 (by decide +kernel) rfl
theorem u352 : (Cond.fieldLink "java/lang/StringUTF16" (59 : Nat) "java/lang/StringUTF16" "HI_BYTE_SHIFT" "I") ∈ UU := uu 352 (by decide +kernel) rfl
theorem u354 : (Cond.fieldLink "java/lang/StringUTF16" (63 : Nat) "java/lang/StringUTF16" "LO_BYTE_SHIFT" "I") ∈ UU := uu 354 (by decide +kernel) rfl
theorem u358 : (Cond.methodLink "SmokeTalk$Telling" (54 : Nat) ({ cls := "SmokeTalk$Telling", name := "readItem", desc := "(LSmokeTalk$Text;)Z" } : MethodName)) ∈ UU := uu 358 (by decide +kernel) rfl
theorem u360 : (Cond.instanceMethod ({ cls := "SmokeTalk$Telling", name := "readItem", desc := "(LSmokeTalk$Text;)Z" } : MethodName)) ∈ UU := uu 360 (by decide +kernel) rfl
theorem u361 : (Cond.code ({ cls := "SmokeTalk$Telling", name := "readItem", desc := "(LSmokeTalk$Text;)Z" } : MethodName) prog_6_method_3_code (5 : Nat) (Option.some FieldType.boolean)) ∈ UU := uu 361 (by decide +kernel) rfl
theorem u362 : (Cond.methodLink "SmokeTalk$Telling" (58 : Nat) ({ cls := "SmokeTalk$Telling", name := "mayBegin", desc := "(I)Z" } : MethodName)) ∈ UU := uu 362 (by decide +kernel) rfl
theorem u364 : (Cond.instanceMethod ({ cls := "SmokeTalk$Telling", name := "mayBegin", desc := "(I)Z" } : MethodName)) ∈ UU := uu 364 (by decide +kernel) rfl
theorem u365 : (Cond.code ({ cls := "SmokeTalk$Telling", name := "mayBegin", desc := "(I)Z" } : MethodName) prog_6_method_4_code (2 : Nat) (Option.some FieldType.boolean)) ∈ UU := uu 365 (by decide +kernel) rfl
theorem u366 : (Cond.methodLink "SmokeTalk$Telling" (62 : Nat) ({ cls := "SmokeTalk$Text", name := "step", desc := "()V" } : MethodName)) ∈ UU := uu 366 (by decide +kernel) rfl
theorem u367 : (Cond.methodLink "SmokeTalk$Telling" (65 : Nat) ({ cls := "SmokeTalk$Telling", name := "numbersOf", desc := "(I)I" } : MethodName)) ∈ UU := uu 367 (by decide +kernel) rfl
theorem u368 : (Cond.static ({ cls := "SmokeTalk$Telling", name := "numbersOf", desc := "(I)I" } : MethodName)) ∈ UU := uu 368 (by decide +kernel) rfl
theorem u369 : (Cond.code ({ cls := "SmokeTalk$Telling", name := "numbersOf", desc := "(I)I" } : MethodName) prog_6_method_5_code (1 : Nat) (Option.some FieldType.int)) ∈ UU := uu 369 (by decide +kernel) rfl
theorem u370 : (Cond.methodLink "SmokeTalk$Telling" (72 : Nat) ({ cls := "SmokeTalk$Telling", name := "mostOf", desc := "(II)I" } : MethodName)) ∈ UU := uu 370 (by decide +kernel) rfl
theorem u371 : (Cond.static ({ cls := "SmokeTalk$Telling", name := "mostOf", desc := "(II)I" } : MethodName)) ∈ UU := uu 371 (by decide +kernel) rfl
theorem u372 : (Cond.code ({ cls := "SmokeTalk$Telling", name := "mostOf", desc := "(II)I" } : MethodName) prog_6_method_6_code (2 : Nat) (Option.some FieldType.int)) ∈ UU := uu 372 (by decide +kernel) rfl
theorem u373 : (Cond.methodLink "SmokeTalk$Telling" (76 : Nat) ({ cls := "SmokeTalk$Telling", name := "draft", desc := "(I)V" } : MethodName)) ∈ UU := uu 373 (by decide +kernel) rfl
theorem u375 : (Cond.instanceMethod ({ cls := "SmokeTalk$Telling", name := "draft", desc := "(I)V" } : MethodName)) ∈ UU := uu 375 (by decide +kernel) rfl
theorem u376 : (Cond.code ({ cls := "SmokeTalk$Telling", name := "draft", desc := "(I)V" } : MethodName) prog_6_method_7_code (2 : Nat) (Option.none : Option FieldType)) ∈ UU := uu 376 (by decide +kernel) rfl
theorem u377 : (Cond.methodLink "SmokeTalk$Telling" (80 : Nat) ({ cls := "SmokeTalk$Suppers", name := "settle", desc := "([I)V" } : MethodName)) ∈ UU := uu 377 (by decide +kernel) rfl
theorem u378 : (Cond.instanceMethod ({ cls := "SmokeTalk$Suppers", name := "settle", desc := "([I)V" } : MethodName)) ∈ UU := uu 378 (by decide +kernel) rfl
theorem u379 : (Cond.selects "SmokeTalk$Suppers" ({ cls := "SmokeTalk$Suppers", name := "settle", desc := "([I)V" } : MethodName) ({ cls := "SmokeTalk$Suppers", name := "settle", desc := "([I)V" } : MethodName)) ∈ UU := uu 379 (by decide +kernel) rfl
theorem u380 : (Cond.code ({ cls := "SmokeTalk$Suppers", name := "settle", desc := "([I)V" } : MethodName) prog_5_method_3_code (3 : Nat) (Option.none : Option FieldType)) ∈ UU := uu 380 (by decide +kernel) rfl
theorem u381 : (Cond.methodLink "SmokeTalk$Telling" (84 : Nat) ({ cls := "SmokeTalk$Menu", name := "list", desc := "([I)V" } : MethodName)) ∈ UU := uu 381 (by decide +kernel) rfl
theorem u382 : (Cond.instanceMethod ({ cls := "SmokeTalk$Menu", name := "list", desc := "([I)V" } : MethodName)) ∈ UU := uu 382 (by decide +kernel) rfl
theorem u383 : (Cond.selects "SmokeTalk$Menu" ({ cls := "SmokeTalk$Menu", name := "list", desc := "([I)V" } : MethodName) ({ cls := "SmokeTalk$Menu", name := "list", desc := "([I)V" } : MethodName)) ∈ UU := uu 383 (by decide +kernel) rfl
theorem u384 : (Cond.code ({ cls := "SmokeTalk$Menu", name := "list", desc := "([I)V" } : MethodName) prog_3_method_3_code (4 : Nat) (Option.none : Option FieldType)) ∈ UU := uu 384 (by decide +kernel) rfl
theorem u385 : (Cond.methodLink "SmokeTalk" (81 : Nat) ({ cls := "SmokeTalk$Menu", name := "become", desc := "(LSmokeTalk$Menu;)V" } : MethodName)) ∈ UU := uu 385 (by decide +kernel) rfl
theorem u386 : (Cond.instanceMethod ({ cls := "SmokeTalk$Menu", name := "become", desc := "(LSmokeTalk$Menu;)V" } : MethodName)) ∈ UU := uu 386 (by decide +kernel) rfl
theorem u387 : (Cond.selects "SmokeTalk$Menu" ({ cls := "SmokeTalk$Menu", name := "become", desc := "(LSmokeTalk$Menu;)V" } : MethodName) ({ cls := "SmokeTalk$Menu", name := "become", desc := "(LSmokeTalk$Menu;)V" } : MethodName)) ∈ UU := uu 387 (by decide +kernel) rfl
theorem u388 : (Cond.code ({ cls := "SmokeTalk$Menu", name := "become", desc := "(LSmokeTalk$Menu;)V" } : MethodName) prog_3_method_2_code (3 : Nat) (Option.none : Option FieldType)) ∈ UU := uu 388 (by decide +kernel) rfl
theorem u389 : (Cond.methodLink "SmokeTalk" (91 : Nat) ({ cls := "SmokeTalk$Suppers", name := "become", desc := "(LSmokeTalk$Suppers;)V" } : MethodName)) ∈ UU := uu 389 (by decide +kernel) rfl
theorem u390 : (Cond.instanceMethod ({ cls := "SmokeTalk$Suppers", name := "become", desc := "(LSmokeTalk$Suppers;)V" } : MethodName)) ∈ UU := uu 390 (by decide +kernel) rfl
theorem u391 : (Cond.selects "SmokeTalk$Suppers" ({ cls := "SmokeTalk$Suppers", name := "become", desc := "(LSmokeTalk$Suppers;)V" } : MethodName) ({ cls := "SmokeTalk$Suppers", name := "become", desc := "(LSmokeTalk$Suppers;)V" } : MethodName)) ∈ UU := uu 391 (by decide +kernel) rfl
theorem u392 : (Cond.code ({ cls := "SmokeTalk$Suppers", name := "become", desc := "(LSmokeTalk$Suppers;)V" } : MethodName) prog_5_method_2_code (3 : Nat) (Option.none : Option FieldType)) ∈ UU := uu 392 (by decide +kernel) rfl
theorem u393 : (Cond.arrayClass FieldType.byte) ∈ UU := uu 393 (by decide +kernel) rfl
theorem u394 : (Cond.methodLink "SmokeTalkLaw" (29 : Nat) ({ cls := "SmokeTalk", name := "house", desc := "(II)I" } : MethodName)) ∈ UU := uu 394 (by decide +kernel) rfl
theorem u395 : (Cond.instanceMethod ({ cls := "SmokeTalk", name := "house", desc := "(II)I" } : MethodName)) ∈ UU := uu 395 (by decide +kernel) rfl
theorem u396 : (Cond.selects "SmokeTalk" ({ cls := "SmokeTalk", name := "house", desc := "(II)I" } : MethodName) ({ cls := "SmokeTalk", name := "house", desc := "(II)I" } : MethodName)) ∈ UU := uu 396 (by decide +kernel) rfl
theorem u397 : (Cond.code ({ cls := "SmokeTalk", name := "house", desc := "(II)I" } : MethodName) prog_1_method_5_code (3 : Nat) (Option.some FieldType.int)) ∈ UU := uu 397 (by decide +kernel) rfl
theorem u398 : (Cond.methodLink "SmokeTalk" (98 : Nat) ({ cls := "SmokeTalk$Suppers", name := "hasHouse", desc := "(I)Z" } : MethodName)) ∈ UU := uu 398 (by decide +kernel) rfl
theorem u399 : (Cond.instanceMethod ({ cls := "SmokeTalk$Suppers", name := "hasHouse", desc := "(I)Z" } : MethodName)) ∈ UU := uu 399 (by decide +kernel) rfl
theorem u400 : (Cond.selects "SmokeTalk$Suppers" ({ cls := "SmokeTalk$Suppers", name := "hasHouse", desc := "(I)Z" } : MethodName) ({ cls := "SmokeTalk$Suppers", name := "hasHouse", desc := "(I)Z" } : MethodName)) ∈ UU := uu 400 (by decide +kernel) rfl
theorem u401 : (Cond.code ({ cls := "SmokeTalk$Suppers", name := "hasHouse", desc := "(I)Z" } : MethodName) prog_5_method_4_code (2 : Nat) (Option.some FieldType.boolean)) ∈ UU := uu 401 (by decide +kernel) rfl
theorem u402 : (Cond.methodLink "SmokeTalk" (102 : Nat) ({ cls := "SmokeTalk$Suppers", name := "stock", desc := "(II)I" } : MethodName)) ∈ UU := uu 402 (by decide +kernel) rfl
theorem u403 : (Cond.instanceMethod ({ cls := "SmokeTalk$Suppers", name := "stock", desc := "(II)I" } : MethodName)) ∈ UU := uu 403 (by decide +kernel) rfl
theorem u404 : (Cond.selects "SmokeTalk$Suppers" ({ cls := "SmokeTalk$Suppers", name := "stock", desc := "(II)I" } : MethodName) ({ cls := "SmokeTalk$Suppers", name := "stock", desc := "(II)I" } : MethodName)) ∈ UU := uu 404 (by decide +kernel) rfl
theorem u405 : (Cond.code ({ cls := "SmokeTalk$Suppers", name := "stock", desc := "(II)I" } : MethodName) prog_5_method_5_code (3 : Nat) (Option.some FieldType.int)) ∈ UU := uu 405 (by decide +kernel) rfl
theorem u406 : (Cond.methodLink "SmokeTalk" (106 : Nat) ({ cls := "SmokeTalk$Suppers", name := "allStock", desc := "(I)I" } : MethodName)) ∈ UU := uu 406 (by decide +kernel) rfl
theorem u407 : (Cond.instanceMethod ({ cls := "SmokeTalk$Suppers", name := "allStock", desc := "(I)I" } : MethodName)) ∈ UU := uu 407 (by decide +kernel) rfl
theorem u408 : (Cond.selects "SmokeTalk$Suppers" ({ cls := "SmokeTalk$Suppers", name := "allStock", desc := "(I)I" } : MethodName) ({ cls := "SmokeTalk$Suppers", name := "allStock", desc := "(I)I" } : MethodName)) ∈ UU := uu 408 (by decide +kernel) rfl
theorem u409 : (Cond.code ({ cls := "SmokeTalk$Suppers", name := "allStock", desc := "(I)I" } : MethodName) prog_5_method_6_code (4 : Nat) (Option.some FieldType.int)) ∈ UU := uu 409 (by decide +kernel) rfl
theorem u410 : (Cond.methodLink "SmokeTalk$Suppers" (38 : Nat) ({ cls := "SmokeTalk$Suppers", name := "stock", desc := "(II)I" } : MethodName)) ∈ UU := uu 410 (by decide +kernel) rfl
theorem u411 : (Cond.methodLink "SmokeTalkLaw" (34 : Nat) ({ cls := "SmokeTalk", name := "dish", desc := "(II)I" } : MethodName)) ∈ UU := uu 411 (by decide +kernel) rfl
theorem u412 : (Cond.instanceMethod ({ cls := "SmokeTalk", name := "dish", desc := "(II)I" } : MethodName)) ∈ UU := uu 412 (by decide +kernel) rfl
theorem u413 : (Cond.selects "SmokeTalk" ({ cls := "SmokeTalk", name := "dish", desc := "(II)I" } : MethodName) ({ cls := "SmokeTalk", name := "dish", desc := "(II)I" } : MethodName)) ∈ UU := uu 413 (by decide +kernel) rfl
theorem u414 : (Cond.code ({ cls := "SmokeTalk", name := "dish", desc := "(II)I" } : MethodName) prog_1_method_6_code (3 : Nat) (Option.some FieldType.int)) ∈ UU := uu 414 (by decide +kernel) rfl
theorem u415 : (Cond.methodLink "SmokeTalk" (110 : Nat) ({ cls := "SmokeTalk$Menu", name := "lists", desc := "(I)Z" } : MethodName)) ∈ UU := uu 415 (by decide +kernel) rfl
theorem u416 : (Cond.instanceMethod ({ cls := "SmokeTalk$Menu", name := "lists", desc := "(I)Z" } : MethodName)) ∈ UU := uu 416 (by decide +kernel) rfl
theorem u417 : (Cond.selects "SmokeTalk$Menu" ({ cls := "SmokeTalk$Menu", name := "lists", desc := "(I)Z" } : MethodName) ({ cls := "SmokeTalk$Menu", name := "lists", desc := "(I)Z" } : MethodName)) ∈ UU := uu 417 (by decide +kernel) rfl
theorem u418 : (Cond.code ({ cls := "SmokeTalk$Menu", name := "lists", desc := "(I)Z" } : MethodName) prog_3_method_4_code (2 : Nat) (Option.some FieldType.boolean)) ∈ UU := uu 418 (by decide +kernel) rfl
theorem u419 : (Cond.methodLink "SmokeTalk" (113 : Nat) ({ cls := "SmokeTalk$Menu", name := "need", desc := "(II)I" } : MethodName)) ∈ UU := uu 419 (by decide +kernel) rfl
theorem u420 : (Cond.instanceMethod ({ cls := "SmokeTalk$Menu", name := "need", desc := "(II)I" } : MethodName)) ∈ UU := uu 420 (by decide +kernel) rfl
theorem u421 : (Cond.selects "SmokeTalk$Menu" ({ cls := "SmokeTalk$Menu", name := "need", desc := "(II)I" } : MethodName) ({ cls := "SmokeTalk$Menu", name := "need", desc := "(II)I" } : MethodName)) ∈ UU := uu 421 (by decide +kernel) rfl
theorem u422 : (Cond.code ({ cls := "SmokeTalk$Menu", name := "need", desc := "(II)I" } : MethodName) prog_3_method_5_code (3 : Nat) (Option.some FieldType.int)) ∈ UU := uu 422 (by decide +kernel) rfl
theorem u423 : (Cond.methodLink "SmokeTalkLaw" (38 : Nat) ({ cls := "SmokeTalk", name := "cook", desc := "(II)I" } : MethodName)) ∈ UU := uu 423 (by decide +kernel) rfl
theorem u424 : (Cond.instanceMethod ({ cls := "SmokeTalk", name := "cook", desc := "(II)I" } : MethodName)) ∈ UU := uu 424 (by decide +kernel) rfl
theorem u425 : (Cond.selects "SmokeTalk" ({ cls := "SmokeTalk", name := "cook", desc := "(II)I" } : MethodName) ({ cls := "SmokeTalk", name := "cook", desc := "(II)I" } : MethodName)) ∈ UU := uu 425 (by decide +kernel) rfl
theorem u426 : (Cond.code ({ cls := "SmokeTalk", name := "cook", desc := "(II)I" } : MethodName) prog_1_method_7_code (4 : Nat) (Option.some FieldType.int)) ∈ UU := uu 426 (by decide +kernel) rfl
theorem u427 : (Cond.methodLink "SmokeTalk" (125 : Nat) ({ cls := "SmokeTalk", name := "couldCook", desc := "(II)Z" } : MethodName)) ∈ UU := uu 427 (by decide +kernel) rfl
theorem u429 : (Cond.instanceMethod ({ cls := "SmokeTalk", name := "couldCook", desc := "(II)Z" } : MethodName)) ∈ UU := uu 429 (by decide +kernel) rfl
theorem u430 : (Cond.code ({ cls := "SmokeTalk", name := "couldCook", desc := "(II)Z" } : MethodName) prog_1_method_33_code (3 : Nat) (Option.some FieldType.boolean)) ∈ UU := uu 430 (by decide +kernel) rfl
theorem u431 : (Cond.methodLink "SmokeTalk" (164 : Nat) ({ cls := "SmokeTalk$Suppers", name := "fill", desc := "(I[I)V" } : MethodName)) ∈ UU := uu 431 (by decide +kernel) rfl
theorem u432 : (Cond.instanceMethod ({ cls := "SmokeTalk$Suppers", name := "fill", desc := "(I[I)V" } : MethodName)) ∈ UU := uu 432 (by decide +kernel) rfl
theorem u433 : (Cond.selects "SmokeTalk$Suppers" ({ cls := "SmokeTalk$Suppers", name := "fill", desc := "(I[I)V" } : MethodName) ({ cls := "SmokeTalk$Suppers", name := "fill", desc := "(I[I)V" } : MethodName)) ∈ UU := uu 433 (by decide +kernel) rfl
theorem u434 : (Cond.code ({ cls := "SmokeTalk$Suppers", name := "fill", desc := "(I[I)V" } : MethodName) prog_5_method_8_code (4 : Nat) (Option.none : Option FieldType)) ∈ UU := uu 434 (by decide +kernel) rfl
theorem u435 : (Cond.methodLink "SmokeTalk" (276 : Nat) ({ cls := "SmokeTalk$Menu", name := "fits", desc := "(I[I)Z" } : MethodName)) ∈ UU := uu 435 (by decide +kernel) rfl
theorem u436 : (Cond.instanceMethod ({ cls := "SmokeTalk$Menu", name := "fits", desc := "(I[I)Z" } : MethodName)) ∈ UU := uu 436 (by decide +kernel) rfl
theorem u437 : (Cond.selects "SmokeTalk$Menu" ({ cls := "SmokeTalk$Menu", name := "fits", desc := "(I[I)Z" } : MethodName) ({ cls := "SmokeTalk$Menu", name := "fits", desc := "(I[I)Z" } : MethodName)) ∈ UU := uu 437 (by decide +kernel) rfl
theorem u438 : (Cond.code ({ cls := "SmokeTalk$Menu", name := "fits", desc := "(I[I)Z" } : MethodName) prog_3_method_6_code (4 : Nat) (Option.some FieldType.boolean)) ∈ UU := uu 438 (by decide +kernel) rfl
theorem u439 : (Cond.methodLink "SmokeTalk$Menu" (28 : Nat) ({ cls := "SmokeTalk$Menu", name := "need", desc := "(II)I" } : MethodName)) ∈ UU := uu 439 (by decide +kernel) rfl
theorem u440 : (Cond.methodLink "SmokeTalk" (132 : Nat) ({ cls := "SmokeTalk$Suppers", name := "change", desc := "(III)V" } : MethodName)) ∈ UU := uu 440 (by decide +kernel) rfl
theorem u441 : (Cond.instanceMethod ({ cls := "SmokeTalk$Suppers", name := "change", desc := "(III)V" } : MethodName)) ∈ UU := uu 441 (by decide +kernel) rfl
theorem u442 : (Cond.selects "SmokeTalk$Suppers" ({ cls := "SmokeTalk$Suppers", name := "change", desc := "(III)V" } : MethodName) ({ cls := "SmokeTalk$Suppers", name := "change", desc := "(III)V" } : MethodName)) ∈ UU := uu 442 (by decide +kernel) rfl
theorem u443 : (Cond.code ({ cls := "SmokeTalk$Suppers", name := "change", desc := "(III)V" } : MethodName) prog_5_method_7_code (4 : Nat) (Option.none : Option FieldType)) ∈ UU := uu 443 (by decide +kernel) rfl
theorem u444 : (Cond.methodLink "SmokeTalk" (136 : Nat) ({ cls := "SmokeTalk$Suppers", name := "rise", desc := "(II)V" } : MethodName)) ∈ UU := uu 444 (by decide +kernel) rfl
theorem u445 : (Cond.instanceMethod ({ cls := "SmokeTalk$Suppers", name := "rise", desc := "(II)V" } : MethodName)) ∈ UU := uu 445 (by decide +kernel) rfl
theorem u446 : (Cond.selects "SmokeTalk$Suppers" ({ cls := "SmokeTalk$Suppers", name := "rise", desc := "(II)V" } : MethodName) ({ cls := "SmokeTalk$Suppers", name := "rise", desc := "(II)V" } : MethodName)) ∈ UU := uu 446 (by decide +kernel) rfl
theorem u447 : (Cond.code ({ cls := "SmokeTalk$Suppers", name := "rise", desc := "(II)V" } : MethodName) prog_5_method_9_code (3 : Nat) (Option.none : Option FieldType)) ∈ UU := uu 447 (by decide +kernel) rfl
theorem u448 : (Cond.methodLink "SmokeTalkLaw" (42 : Nat) ({ cls := "SmokeTalk", name := "undo", desc := "()I" } : MethodName)) ∈ UU := uu 448 (by decide +kernel) rfl
theorem u449 : (Cond.instanceMethod ({ cls := "SmokeTalk", name := "undo", desc := "()I" } : MethodName)) ∈ UU := uu 449 (by decide +kernel) rfl
theorem u450 : (Cond.selects "SmokeTalk" ({ cls := "SmokeTalk", name := "undo", desc := "()I" } : MethodName) ({ cls := "SmokeTalk", name := "undo", desc := "()I" } : MethodName)) ∈ UU := uu 450 (by decide +kernel) rfl
theorem u451 : (Cond.code ({ cls := "SmokeTalk", name := "undo", desc := "()I" } : MethodName) prog_1_method_8_code (5 : Nat) (Option.some FieldType.int)) ∈ UU := uu 451 (by decide +kernel) rfl
theorem u452 : (Cond.methodLink "SmokeTalk" (146 : Nat) ({ cls := "java/lang/Math", name := "min", desc := "(II)I" } : MethodName)) ∈ UU := uu 452 (by decide +kernel) rfl
theorem u453 : (Cond.static ({ cls := "java/lang/Math", name := "min", desc := "(II)I" } : MethodName)) ∈ UU := uu 453 (by decide +kernel) rfl
theorem u454 : (Cond.code ({ cls := "java/lang/Math", name := "min", desc := "(II)I" } : MethodName) prog_11_method_69_code (2 : Nat) (Option.some FieldType.int)) ∈ UU := uu 454 (by decide +kernel) rfl
theorem u455 : (Cond.methodLink "SmokeTalkLaw" (46 : Nat) ({ cls := "SmokeTalk", name := "gives", desc := "(IIII)I" } : MethodName)) ∈ UU := uu 455 (by decide +kernel) rfl
theorem u456 : (Cond.instanceMethod ({ cls := "SmokeTalk", name := "gives", desc := "(IIII)I" } : MethodName)) ∈ UU := uu 456 (by decide +kernel) rfl
theorem u457 : (Cond.selects "SmokeTalk" ({ cls := "SmokeTalk", name := "gives", desc := "(IIII)I" } : MethodName) ({ cls := "SmokeTalk", name := "gives", desc := "(IIII)I" } : MethodName)) ∈ UU := uu 457 (by decide +kernel) rfl
theorem u458 : (Cond.code ({ cls := "SmokeTalk", name := "gives", desc := "(IIII)I" } : MethodName) prog_1_method_9_code (5 : Nat) (Option.some FieldType.int)) ∈ UU := uu 458 (by decide +kernel) rfl
theorem u459 : (Cond.methodLink "SmokeTalkLaw" (51 : Nat) ({ cls := "SmokeTalk", name := "burns", desc := "(I)I" } : MethodName)) ∈ UU := uu 459 (by decide +kernel) rfl
theorem u460 : (Cond.instanceMethod ({ cls := "SmokeTalk", name := "burns", desc := "(I)I" } : MethodName)) ∈ UU := uu 460 (by decide +kernel) rfl
theorem u461 : (Cond.selects "SmokeTalk" ({ cls := "SmokeTalk", name := "burns", desc := "(I)I" } : MethodName) ({ cls := "SmokeTalk", name := "burns", desc := "(I)I" } : MethodName)) ∈ UU := uu 461 (by decide +kernel) rfl
theorem u462 : (Cond.code ({ cls := "SmokeTalk", name := "burns", desc := "(I)I" } : MethodName) prog_1_method_10_code (4 : Nat) (Option.some FieldType.int)) ∈ UU := uu 462 (by decide +kernel) rfl
theorem u463 : (Cond.methodLink "SmokeTalkLaw" (56 : Nat) ({ cls := "SmokeTalk", name := "plume", desc := "(II)I" } : MethodName)) ∈ UU := uu 463 (by decide +kernel) rfl
theorem u464 : (Cond.instanceMethod ({ cls := "SmokeTalk", name := "plume", desc := "(II)I" } : MethodName)) ∈ UU := uu 464 (by decide +kernel) rfl
theorem u465 : (Cond.selects "SmokeTalk" ({ cls := "SmokeTalk", name := "plume", desc := "(II)I" } : MethodName) ({ cls := "SmokeTalk", name := "plume", desc := "(II)I" } : MethodName)) ∈ UU := uu 465 (by decide +kernel) rfl
theorem u466 : (Cond.code ({ cls := "SmokeTalk", name := "plume", desc := "(II)I" } : MethodName) prog_1_method_11_code (3 : Nat) (Option.some FieldType.int)) ∈ UU := uu 466 (by decide +kernel) rfl
theorem u467 : (Cond.methodLink "SmokeTalkLaw" (60 : Nat) ({ cls := "SmokeTalk", name := "fog", desc := "(I)I" } : MethodName)) ∈ UU := uu 467 (by decide +kernel) rfl
theorem u468 : (Cond.instanceMethod ({ cls := "SmokeTalk", name := "fog", desc := "(I)I" } : MethodName)) ∈ UU := uu 468 (by decide +kernel) rfl
theorem u469 : (Cond.selects "SmokeTalk" ({ cls := "SmokeTalk", name := "fog", desc := "(I)I" } : MethodName) ({ cls := "SmokeTalk", name := "fog", desc := "(I)I" } : MethodName)) ∈ UU := uu 469 (by decide +kernel) rfl
theorem u470 : (Cond.code ({ cls := "SmokeTalk", name := "fog", desc := "(I)I" } : MethodName) prog_1_method_12_code (3 : Nat) (Option.some FieldType.int)) ∈ UU := uu 470 (by decide +kernel) rfl
theorem u471 : (Cond.methodLink "SmokeTalkLaw" (64 : Nat) ({ cls := "SmokeTalk", name := "says", desc := "(IIIII)I" } : MethodName)) ∈ UU := uu 471 (by decide +kernel) rfl
theorem u472 : (Cond.instanceMethod ({ cls := "SmokeTalk", name := "says", desc := "(IIIII)I" } : MethodName)) ∈ UU := uu 472 (by decide +kernel) rfl
theorem u473 : (Cond.selects "SmokeTalk" ({ cls := "SmokeTalk", name := "says", desc := "(IIIII)I" } : MethodName) ({ cls := "SmokeTalk", name := "says", desc := "(IIIII)I" } : MethodName)) ∈ UU := uu 473 (by decide +kernel) rfl
theorem u474 : (Cond.code ({ cls := "SmokeTalk", name := "says", desc := "(IIIII)I" } : MethodName) prog_1_method_13_code (7 : Nat) (Option.some FieldType.int)) ∈ UU := uu 474 (by decide +kernel) rfl
theorem u475 : (Cond.methodLink "SmokeTalk" (154 : Nat) ({ cls := "SmokeTalk", name := "isRow", desc := "(III)Z" } : MethodName)) ∈ UU := uu 475 (by decide +kernel) rfl
theorem u476 : (Cond.static ({ cls := "SmokeTalk", name := "isRow", desc := "(III)Z" } : MethodName)) ∈ UU := uu 476 (by decide +kernel) rfl
theorem u477 : (Cond.code ({ cls := "SmokeTalk", name := "isRow", desc := "(III)Z" } : MethodName) prog_1_method_32_code (3 : Nat) (Option.some FieldType.boolean)) ∈ UU := uu 477 (by decide +kernel) rfl
theorem u478 : (Cond.methodLink "SmokeTalk" (191 : Nat) ({ cls := "SmokeTalk", name := "isWord", desc := "(I)Z" } : MethodName)) ∈ UU := uu 478 (by decide +kernel) rfl
theorem u479 : (Cond.static ({ cls := "SmokeTalk", name := "isWord", desc := "(I)Z" } : MethodName)) ∈ UU := uu 479 (by decide +kernel) rfl
theorem u480 : (Cond.code ({ cls := "SmokeTalk", name := "isWord", desc := "(I)Z" } : MethodName) prog_1_method_31_code (1 : Nat) (Option.some FieldType.boolean)) ∈ UU := uu 480 (by decide +kernel) rfl
theorem u481 : (Cond.methodLink "SmokeTalk" (158 : Nat) ({ cls := "SmokeTalk$Speech", name := "hear", desc := "(III)V" } : MethodName)) ∈ UU := uu 481 (by decide +kernel) rfl
theorem u482 : (Cond.instanceMethod ({ cls := "SmokeTalk$Speech", name := "hear", desc := "(III)V" } : MethodName)) ∈ UU := uu 482 (by decide +kernel) rfl
theorem u483 : (Cond.selects "SmokeTalk$Speech" ({ cls := "SmokeTalk$Speech", name := "hear", desc := "(III)V" } : MethodName) ({ cls := "SmokeTalk$Speech", name := "hear", desc := "(III)V" } : MethodName)) ∈ UU := uu 483 (by decide +kernel) rfl
theorem u484 : (Cond.code ({ cls := "SmokeTalk$Speech", name := "hear", desc := "(III)V" } : MethodName) prog_4_method_2_code (4 : Nat) (Option.none : Option FieldType)) ∈ UU := uu 484 (by decide +kernel) rfl
theorem u485 : (Cond.methodLink "SmokeTalk" (168 : Nat) ({ cls := "SmokeTalk$Speech", name := "fewestUnits", desc := "(LSmokeTalk$Menu;I)I" } : MethodName)) ∈ UU := uu 485 (by decide +kernel) rfl
theorem u486 : (Cond.instanceMethod ({ cls := "SmokeTalk$Speech", name := "fewestUnits", desc := "(LSmokeTalk$Menu;I)I" } : MethodName)) ∈ UU := uu 486 (by decide +kernel) rfl
theorem u487 : (Cond.selects "SmokeTalk$Speech" ({ cls := "SmokeTalk$Speech", name := "fewestUnits", desc := "(LSmokeTalk$Menu;I)I" } : MethodName) ({ cls := "SmokeTalk$Speech", name := "fewestUnits", desc := "(LSmokeTalk$Menu;I)I" } : MethodName)) ∈ UU := uu 487 (by decide +kernel) rfl
theorem u488 : (Cond.code ({ cls := "SmokeTalk$Speech", name := "fewestUnits", desc := "(LSmokeTalk$Menu;I)I" } : MethodName) prog_4_method_3_code (3 : Nat) (Option.some FieldType.int)) ∈ UU := uu 488 (by decide +kernel) rfl
theorem u489 : (Cond.methodLink "SmokeTalk$Speech" (31 : Nat) ({ cls := "SmokeTalk$Speech", name := "choose", desc := "(LSmokeTalk$Speech;LSmokeTalk$Menu;III)V" } : MethodName)) ∈ UU := uu 489 (by decide +kernel) rfl
theorem u490 : (Cond.static ({ cls := "SmokeTalk$Speech", name := "choose", desc := "(LSmokeTalk$Speech;LSmokeTalk$Menu;III)V" } : MethodName)) ∈ UU := uu 490 (by decide +kernel) rfl
theorem u491 : (Cond.code ({ cls := "SmokeTalk$Speech", name := "choose", desc := "(LSmokeTalk$Speech;LSmokeTalk$Menu;III)V" } : MethodName) prog_4_method_5_code (6 : Nat) (Option.none : Option FieldType)) ∈ UU := uu 491 (by decide +kernel) rfl
theorem u492 : (Cond.methodLink "SmokeTalk$Speech" (45 : Nat) ({ cls := "SmokeTalk$Speech", name := "compare", desc := "(I)V" } : MethodName)) ∈ UU := uu 492 (by decide +kernel) rfl
theorem u494 : (Cond.instanceMethod ({ cls := "SmokeTalk$Speech", name := "compare", desc := "(I)V" } : MethodName)) ∈ UU := uu 494 (by decide +kernel) rfl
theorem u495 : (Cond.code ({ cls := "SmokeTalk$Speech", name := "compare", desc := "(I)V" } : MethodName) prog_4_method_6_code (3 : Nat) (Option.none : Option FieldType)) ∈ UU := uu 495 (by decide +kernel) rfl
theorem u496 : (Cond.methodLink "SmokeTalk$Speech" (57 : Nat) ({ cls := "SmokeTalk$Menu", name := "fits", desc := "(I[I)Z" } : MethodName)) ∈ UU := uu 496 (by decide +kernel) rfl
theorem u497 : (Cond.methodLink "SmokeTalk$Speech" (61 : Nat) ({ cls := "SmokeTalk$Menu", name := "take", desc := "(I[I)V" } : MethodName)) ∈ UU := uu 497 (by decide +kernel) rfl
theorem u498 : (Cond.instanceMethod ({ cls := "SmokeTalk$Menu", name := "take", desc := "(I[I)V" } : MethodName)) ∈ UU := uu 498 (by decide +kernel) rfl
theorem u499 : (Cond.selects "SmokeTalk$Menu" ({ cls := "SmokeTalk$Menu", name := "take", desc := "(I[I)V" } : MethodName) ({ cls := "SmokeTalk$Menu", name := "take", desc := "(I[I)V" } : MethodName)) ∈ UU := uu 499 (by decide +kernel) rfl
theorem u500 : (Cond.code ({ cls := "SmokeTalk$Menu", name := "take", desc := "(I[I)V" } : MethodName) prog_3_method_7_code (4 : Nat) (Option.none : Option FieldType)) ∈ UU := uu 500 (by decide +kernel) rfl
theorem u501 : (Cond.methodLink "SmokeTalk$Speech" (68 : Nat) ({ cls := "SmokeTalk$Menu", name := "putBack", desc := "(I[I)V" } : MethodName)) ∈ UU := uu 501 (by decide +kernel) rfl
theorem u502 : (Cond.instanceMethod ({ cls := "SmokeTalk$Menu", name := "putBack", desc := "(I[I)V" } : MethodName)) ∈ UU := uu 502 (by decide +kernel) rfl
theorem u503 : (Cond.selects "SmokeTalk$Menu" ({ cls := "SmokeTalk$Menu", name := "putBack", desc := "(I[I)V" } : MethodName) ({ cls := "SmokeTalk$Menu", name := "putBack", desc := "(I[I)V" } : MethodName)) ∈ UU := uu 503 (by decide +kernel) rfl
theorem u504 : (Cond.code ({ cls := "SmokeTalk$Menu", name := "putBack", desc := "(I[I)V" } : MethodName) prog_3_method_8_code (4 : Nat) (Option.none : Option FieldType)) ∈ UU := uu 504 (by decide +kernel) rfl
theorem u505 : (Cond.methodLink "SmokeTalkLaw" (69 : Nat) ({ cls := "SmokeTalk", name := "nearest", desc := "(IIII)I" } : MethodName)) ∈ UU := uu 505 (by decide +kernel) rfl
theorem u506 : (Cond.instanceMethod ({ cls := "SmokeTalk", name := "nearest", desc := "(IIII)I" } : MethodName)) ∈ UU := uu 506 (by decide +kernel) rfl
theorem u507 : (Cond.selects "SmokeTalk" ({ cls := "SmokeTalk", name := "nearest", desc := "(IIII)I" } : MethodName) ({ cls := "SmokeTalk", name := "nearest", desc := "(IIII)I" } : MethodName)) ∈ UU := uu 507 (by decide +kernel) rfl
theorem u508 : (Cond.code ({ cls := "SmokeTalk", name := "nearest", desc := "(IIII)I" } : MethodName) prog_1_method_14_code (5 : Nat) (Option.some FieldType.int)) ∈ UU := uu 508 (by decide +kernel) rfl
theorem u509 : (Cond.methodLink "SmokeTalk" (178 : Nat) ({ cls := "SmokeTalk$Speech", name := "mostPlaces", desc := "(LSmokeTalk$Menu;)I" } : MethodName)) ∈ UU := uu 509 (by decide +kernel) rfl
theorem u510 : (Cond.instanceMethod ({ cls := "SmokeTalk$Speech", name := "mostPlaces", desc := "(LSmokeTalk$Menu;)I" } : MethodName)) ∈ UU := uu 510 (by decide +kernel) rfl
theorem u511 : (Cond.selects "SmokeTalk$Speech" ({ cls := "SmokeTalk$Speech", name := "mostPlaces", desc := "(LSmokeTalk$Menu;)I" } : MethodName) ({ cls := "SmokeTalk$Speech", name := "mostPlaces", desc := "(LSmokeTalk$Menu;)I" } : MethodName)) ∈ UU := uu 511 (by decide +kernel) rfl
theorem u512 : (Cond.code ({ cls := "SmokeTalk$Speech", name := "mostPlaces", desc := "(LSmokeTalk$Menu;)I" } : MethodName) prog_4_method_4_code (5 : Nat) (Option.some FieldType.int)) ∈ UU := uu 512 (by decide +kernel) rfl
theorem u513 : (Cond.methodLink "SmokeTalk$Speech" (35 : Nat) ({ cls := "java/lang/Integer", name := "bitCount", desc := "(I)I" } : MethodName)) ∈ UU := uu 513 (by decide +kernel) rfl
theorem u514 : (Cond.static ({ cls := "java/lang/Integer", name := "bitCount", desc := "(I)I" } : MethodName)) ∈ UU := uu 514 (by decide +kernel) rfl
theorem u515 : (Cond.code ({ cls := "java/lang/Integer", name := "bitCount", desc := "(I)I" } : MethodName) prog_10_method_49_code (1 : Nat) (Option.some FieldType.int)) ∈ UU := uu 515 (by decide +kernel) rfl
theorem u516 : (Cond.constant "java/lang/Integer" (265 : Nat) (1431655765 : Int32)) ∈ UU := uu 516 (by decide +kernel) rfl
theorem u517 : (Cond.constant "java/lang/Integer" (266 : Nat) (858993459 : Int32)) ∈ UU := uu 517 (by decide +kernel) rfl
theorem u518 : (Cond.constant "java/lang/Integer" (267 : Nat) (252645135 : Int32)) ∈ UU := uu 518 (by decide +kernel) rfl
theorem u519 : (Cond.methodLink "SmokeTalk$Speech" (41 : Nat) ({ cls := "SmokeTalk$Speech", name := "fewestUnits", desc := "(LSmokeTalk$Menu;I)I" } : MethodName)) ∈ UU := uu 519 (by decide +kernel) rfl
theorem u520 : (Cond.methodLink "SmokeTalkLaw" (73 : Nat) ({ cls := "SmokeTalk", name := "reads", desc := "(II)I" } : MethodName)) ∈ UU := uu 520 (by decide +kernel) rfl
theorem u521 : (Cond.instanceMethod ({ cls := "SmokeTalk", name := "reads", desc := "(II)I" } : MethodName)) ∈ UU := uu 521 (by decide +kernel) rfl
theorem u522 : (Cond.selects "SmokeTalk" ({ cls := "SmokeTalk", name := "reads", desc := "(II)I" } : MethodName) ({ cls := "SmokeTalk", name := "reads", desc := "(II)I" } : MethodName)) ∈ UU := uu 522 (by decide +kernel) rfl
theorem u523 : (Cond.code ({ cls := "SmokeTalk", name := "reads", desc := "(II)I" } : MethodName) prog_1_method_15_code (3 : Nat) (Option.some FieldType.int)) ∈ UU := uu 523 (by decide +kernel) rfl
theorem u524 : (Cond.methodLink "SmokeTalk" (182 : Nat) ({ cls := "SmokeTalk", name := "isSmoke", desc := "(I)Z" } : MethodName)) ∈ UU := uu 524 (by decide +kernel) rfl
theorem u525 : (Cond.static ({ cls := "SmokeTalk", name := "isSmoke", desc := "(I)Z" } : MethodName)) ∈ UU := uu 525 (by decide +kernel) rfl
theorem u526 : (Cond.code ({ cls := "SmokeTalk", name := "isSmoke", desc := "(I)Z" } : MethodName) prog_1_method_30_code (1 : Nat) (Option.some FieldType.boolean)) ∈ UU := uu 526 (by decide +kernel) rfl
theorem u527 : (Cond.methodLink "SmokeTalk" (185 : Nat) ({ cls := "SmokeTalk$Suppers", name := "thousandths", desc := "(II)I" } : MethodName)) ∈ UU := uu 527 (by decide +kernel) rfl
theorem u528 : (Cond.instanceMethod ({ cls := "SmokeTalk$Suppers", name := "thousandths", desc := "(II)I" } : MethodName)) ∈ UU := uu 528 (by decide +kernel) rfl
theorem u529 : (Cond.selects "SmokeTalk$Suppers" ({ cls := "SmokeTalk$Suppers", name := "thousandths", desc := "(II)I" } : MethodName) ({ cls := "SmokeTalk$Suppers", name := "thousandths", desc := "(II)I" } : MethodName)) ∈ UU := uu 529 (by decide +kernel) rfl
theorem u530 : (Cond.code ({ cls := "SmokeTalk$Suppers", name := "thousandths", desc := "(II)I" } : MethodName) prog_5_method_10_code (6 : Nat) (Option.some FieldType.int)) ∈ UU := uu 530 (by decide +kernel) rfl
theorem u531 : (Cond.methodLink "SmokeTalkLaw" (77 : Nat) ({ cls := "SmokeTalk", name := "means", desc := "(I)I" } : MethodName)) ∈ UU := uu 531 (by decide +kernel) rfl
theorem u532 : (Cond.instanceMethod ({ cls := "SmokeTalk", name := "means", desc := "(I)I" } : MethodName)) ∈ UU := uu 532 (by decide +kernel) rfl
theorem u533 : (Cond.selects "SmokeTalk" ({ cls := "SmokeTalk", name := "means", desc := "(I)I" } : MethodName) ({ cls := "SmokeTalk", name := "means", desc := "(I)I" } : MethodName)) ∈ UU := uu 533 (by decide +kernel) rfl
theorem u534 : (Cond.code ({ cls := "SmokeTalk", name := "means", desc := "(I)I" } : MethodName) prog_1_method_16_code (2 : Nat) (Option.some FieldType.int)) ∈ UU := uu 534 (by decide +kernel) rfl
theorem u535 : (Cond.methodLink "SmokeTalk" (188 : Nat) ({ cls := "SmokeTalk$Menu", name := "meaning", desc := "(I)I" } : MethodName)) ∈ UU := uu 535 (by decide +kernel) rfl
theorem u536 : (Cond.instanceMethod ({ cls := "SmokeTalk$Menu", name := "meaning", desc := "(I)I" } : MethodName)) ∈ UU := uu 536 (by decide +kernel) rfl
theorem u537 : (Cond.selects "SmokeTalk$Menu" ({ cls := "SmokeTalk$Menu", name := "meaning", desc := "(I)I" } : MethodName) ({ cls := "SmokeTalk$Menu", name := "meaning", desc := "(I)I" } : MethodName)) ∈ UU := uu 537 (by decide +kernel) rfl
theorem u538 : (Cond.code ({ cls := "SmokeTalk$Menu", name := "meaning", desc := "(I)I" } : MethodName) prog_3_method_11_code (3 : Nat) (Option.some FieldType.int)) ∈ UU := uu 538 (by decide +kernel) rfl
theorem u539 : (Cond.methodLink "SmokeTalkLaw" (81 : Nat) ({ cls := "SmokeTalk", name := "chain", desc := "(III)J" } : MethodName)) ∈ UU := uu 539 (by decide +kernel) rfl
theorem u540 : (Cond.instanceMethod ({ cls := "SmokeTalk", name := "chain", desc := "(III)J" } : MethodName)) ∈ UU := uu 540 (by decide +kernel) rfl
theorem u541 : (Cond.selects "SmokeTalk" ({ cls := "SmokeTalk", name := "chain", desc := "(III)J" } : MethodName) ({ cls := "SmokeTalk", name := "chain", desc := "(III)J" } : MethodName)) ∈ UU := uu 541 (by decide +kernel) rfl
theorem u542 : (Cond.code ({ cls := "SmokeTalk", name := "chain", desc := "(III)J" } : MethodName) prog_1_method_17_code (7 : Nat) (Option.some FieldType.long)) ∈ UU := uu 542 (by decide +kernel) rfl
theorem u543 : (Cond.constantLong "SmokeTalk" (194 : Nat) (-1 : Int64)) ∈ UU := uu 543 (by decide +kernel) rfl
theorem u544 : (Cond.methodLink "SmokeTalk" (196 : Nat) ({ cls := "SmokeTalk$Menu", name := "leastSaying", desc := "(I)I" } : MethodName)) ∈ UU := uu 544 (by decide +kernel) rfl
theorem u545 : (Cond.instanceMethod ({ cls := "SmokeTalk$Menu", name := "leastSaying", desc := "(I)I" } : MethodName)) ∈ UU := uu 545 (by decide +kernel) rfl
theorem u546 : (Cond.selects "SmokeTalk$Menu" ({ cls := "SmokeTalk$Menu", name := "leastSaying", desc := "(I)I" } : MethodName) ({ cls := "SmokeTalk$Menu", name := "leastSaying", desc := "(I)I" } : MethodName)) ∈ UU := uu 546 (by decide +kernel) rfl
theorem u547 : (Cond.code ({ cls := "SmokeTalk$Menu", name := "leastSaying", desc := "(I)I" } : MethodName) prog_3_method_10_code (3 : Nat) (Option.some FieldType.int)) ∈ UU := uu 547 (by decide +kernel) rfl
theorem u548 : (Cond.methodLink "SmokeTalk" (199 : Nat) ({ cls := "SmokeTalk", name := "leastTerms", desc := "(JJI)J" } : MethodName)) ∈ UU := uu 548 (by decide +kernel) rfl
theorem u549 : (Cond.static ({ cls := "SmokeTalk", name := "leastTerms", desc := "(JJI)J" } : MethodName)) ∈ UU := uu 549 (by decide +kernel) rfl
theorem u550 : (Cond.code ({ cls := "SmokeTalk", name := "leastTerms", desc := "(JJI)J" } : MethodName) prog_1_method_35_code (12 : Nat) (Option.some FieldType.long)) ∈ UU := uu 550 (by decide +kernel) rfl
theorem u551 : (Cond.methodLink "SmokeTalk" (203 : Nat) ({ cls := "SmokeTalk$Chain", name := "begin", desc := "(I)V" } : MethodName)) ∈ UU := uu 551 (by decide +kernel) rfl
theorem u552 : (Cond.instanceMethod ({ cls := "SmokeTalk$Chain", name := "begin", desc := "(I)V" } : MethodName)) ∈ UU := uu 552 (by decide +kernel) rfl
theorem u553 : (Cond.selects "SmokeTalk$Chain" ({ cls := "SmokeTalk$Chain", name := "begin", desc := "(I)V" } : MethodName) ({ cls := "SmokeTalk$Chain", name := "begin", desc := "(I)V" } : MethodName)) ∈ UU := uu 553 (by decide +kernel) rfl
theorem u554 : (Cond.code ({ cls := "SmokeTalk$Chain", name := "begin", desc := "(I)V" } : MethodName) prog_2_method_2_code (3 : Nat) (Option.none : Option FieldType)) ∈ UU := uu 554 (by decide +kernel) rfl
theorem u555 : (Cond.methodLink "SmokeTalk" (206 : Nat) ({ cls := "SmokeTalk$Chain", name := "read", desc := "(LSmokeTalk$Menu;LSmokeTalk$Suppers;)V" } : MethodName)) ∈ UU := uu 555 (by decide +kernel) rfl
theorem u556 : (Cond.instanceMethod ({ cls := "SmokeTalk$Chain", name := "read", desc := "(LSmokeTalk$Menu;LSmokeTalk$Suppers;)V" } : MethodName)) ∈ UU := uu 556 (by decide +kernel) rfl
theorem u557 : (Cond.selects "SmokeTalk$Chain" ({ cls := "SmokeTalk$Chain", name := "read", desc := "(LSmokeTalk$Menu;LSmokeTalk$Suppers;)V" } : MethodName) ({ cls := "SmokeTalk$Chain", name := "read", desc := "(LSmokeTalk$Menu;LSmokeTalk$Suppers;)V" } : MethodName)) ∈ UU := uu 557 (by decide +kernel) rfl
theorem u558 : (Cond.code ({ cls := "SmokeTalk$Chain", name := "read", desc := "(LSmokeTalk$Menu;LSmokeTalk$Suppers;)V" } : MethodName) prog_2_method_3_code (7 : Nat) (Option.none : Option FieldType)) ∈ UU := uu 558 (by decide +kernel) rfl
theorem u559 : (Cond.methodLink "SmokeTalk$Chain" (18 : Nat) ({ cls := "SmokeTalk$Menu", name := "meaning", desc := "(I)I" } : MethodName)) ∈ UU := uu 559 (by decide +kernel) rfl
theorem u561 : (Cond.methodLink "SmokeTalk$Chain" (28 : Nat) ({ cls := "SmokeTalk$Menu", name := "leastSaying", desc := "(I)I" } : MethodName)) ∈ UU := uu 561 (by decide +kernel) rfl
theorem u562 : (Cond.methodLink "SmokeTalk$Chain" (35 : Nat) ({ cls := "SmokeTalk$Suppers", name := "thousandths", desc := "(II)I" } : MethodName)) ∈ UU := uu 562 (by decide +kernel) rfl
theorem u563 : (Cond.constantLong "SmokeTalk" (210 : Nat) (1000 : Int64)) ∈ UU := uu 563 (by decide +kernel) rfl
theorem u564 : (Cond.methodLink "SmokeTalkLaw" (86 : Nat) ({ cls := "SmokeTalk", name := "who", desc := "(III)I" } : MethodName)) ∈ UU := uu 564 (by decide +kernel) rfl
theorem u565 : (Cond.instanceMethod ({ cls := "SmokeTalk", name := "who", desc := "(III)I" } : MethodName)) ∈ UU := uu 565 (by decide +kernel) rfl
theorem u566 : (Cond.selects "SmokeTalk" ({ cls := "SmokeTalk", name := "who", desc := "(III)I" } : MethodName) ({ cls := "SmokeTalk", name := "who", desc := "(III)I" } : MethodName)) ∈ UU := uu 566 (by decide +kernel) rfl
theorem u567 : (Cond.code ({ cls := "SmokeTalk", name := "who", desc := "(III)I" } : MethodName) prog_1_method_18_code (6 : Nat) (Option.some FieldType.int)) ∈ UU := uu 567 (by decide +kernel) rfl
theorem u568 : (Cond.methodLink "SmokeTalk" (219 : Nat) ({ cls := "SmokeTalk", name := "weightOf", desc := "(II)I" } : MethodName)) ∈ UU := uu 568 (by decide +kernel) rfl
theorem u570 : (Cond.instanceMethod ({ cls := "SmokeTalk", name := "weightOf", desc := "(II)I" } : MethodName)) ∈ UU := uu 570 (by decide +kernel) rfl
theorem u571 : (Cond.code ({ cls := "SmokeTalk", name := "weightOf", desc := "(II)I" } : MethodName) prog_1_method_34_code (5 : Nat) (Option.some FieldType.int)) ∈ UU := uu 571 (by decide +kernel) rfl
theorem u572 : (Cond.methodLink "SmokeTalkLaw" (91 : Nat) ({ cls := "SmokeTalk", name := "days", desc := "(I)I" } : MethodName)) ∈ UU := uu 572 (by decide +kernel) rfl
theorem u573 : (Cond.instanceMethod ({ cls := "SmokeTalk", name := "days", desc := "(I)I" } : MethodName)) ∈ UU := uu 573 (by decide +kernel) rfl
theorem u574 : (Cond.selects "SmokeTalk" ({ cls := "SmokeTalk", name := "days", desc := "(I)I" } : MethodName) ({ cls := "SmokeTalk", name := "days", desc := "(I)I" } : MethodName)) ∈ UU := uu 574 (by decide +kernel) rfl
theorem u575 : (Cond.code ({ cls := "SmokeTalk", name := "days", desc := "(I)I" } : MethodName) prog_1_method_19_code (4 : Nat) (Option.some FieldType.int)) ∈ UU := uu 575 (by decide +kernel) rfl
theorem u576 : (Cond.methodLink "SmokeTalk" (222 : Nat) ({ cls := "SmokeTalk$Menu", name := "leanest", desc := "([I)I" } : MethodName)) ∈ UU := uu 576 (by decide +kernel) rfl
theorem u577 : (Cond.instanceMethod ({ cls := "SmokeTalk$Menu", name := "leanest", desc := "([I)I" } : MethodName)) ∈ UU := uu 577 (by decide +kernel) rfl
theorem u578 : (Cond.selects "SmokeTalk$Menu" ({ cls := "SmokeTalk$Menu", name := "leanest", desc := "([I)I" } : MethodName) ({ cls := "SmokeTalk$Menu", name := "leanest", desc := "([I)I" } : MethodName)) ∈ UU := uu 578 (by decide +kernel) rfl
theorem u579 : (Cond.code ({ cls := "SmokeTalk$Menu", name := "leanest", desc := "([I)I" } : MethodName) prog_3_method_9_code (4 : Nat) (Option.some FieldType.int)) ∈ UU := uu 579 (by decide +kernel) rfl
theorem u580 : (Cond.methodLink "SmokeTalk$Menu" (32 : Nat) ({ cls := "SmokeTalk$Menu", name := "fits", desc := "(I[I)Z" } : MethodName)) ∈ UU := uu 580 (by decide +kernel) rfl
theorem u581 : (Cond.methodLink "SmokeTalk" (226 : Nat) ({ cls := "SmokeTalk$Menu", name := "take", desc := "(I[I)V" } : MethodName)) ∈ UU := uu 581 (by decide +kernel) rfl
theorem u582 : (Cond.methodLink "SmokeTalkLaw" (95 : Nat) ({ cls := "SmokeTalk", name := "code", desc := "(III)I" } : MethodName)) ∈ UU := uu 582 (by decide +kernel) rfl
theorem u583 : (Cond.instanceMethod ({ cls := "SmokeTalk", name := "code", desc := "(III)I" } : MethodName)) ∈ UU := uu 583 (by decide +kernel) rfl
theorem u584 : (Cond.selects "SmokeTalk" ({ cls := "SmokeTalk", name := "code", desc := "(III)I" } : MethodName) ({ cls := "SmokeTalk", name := "code", desc := "(III)I" } : MethodName)) ∈ UU := uu 584 (by decide +kernel) rfl
theorem u585 : (Cond.code ({ cls := "SmokeTalk", name := "code", desc := "(III)I" } : MethodName) prog_1_method_20_code (8 : Nat) (Option.some FieldType.int)) ∈ UU := uu 585 (by decide +kernel) rfl
theorem u586 : (Cond.methodLink "SmokeTalk" (229 : Nat) ({ cls := "java/lang/Integer", name := "bitCount", desc := "(I)I" } : MethodName)) ∈ UU := uu 586 (by decide +kernel) rfl
theorem u587 : (Cond.methodLink "SmokeTalk" (237 : Nat) ({ cls := "SmokeTalk$Menu", name := "tellsApart", desc := "(III)Z" } : MethodName)) ∈ UU := uu 587 (by decide +kernel) rfl
theorem u588 : (Cond.instanceMethod ({ cls := "SmokeTalk$Menu", name := "tellsApart", desc := "(III)Z" } : MethodName)) ∈ UU := uu 588 (by decide +kernel) rfl
theorem u589 : (Cond.selects "SmokeTalk$Menu" ({ cls := "SmokeTalk$Menu", name := "tellsApart", desc := "(III)Z" } : MethodName) ({ cls := "SmokeTalk$Menu", name := "tellsApart", desc := "(III)Z" } : MethodName)) ∈ UU := uu 589 (by decide +kernel) rfl
theorem u590 : (Cond.code ({ cls := "SmokeTalk$Menu", name := "tellsApart", desc := "(III)Z" } : MethodName) prog_3_method_14_code (6 : Nat) (Option.some FieldType.boolean)) ∈ UU := uu 590 (by decide +kernel) rfl
theorem u591 : (Cond.methodLink "SmokeTalk$Menu" (36 : Nat) ({ cls := "SmokeTalk$Menu", name := "holds", desc := "(II)Z" } : MethodName)) ∈ UU := uu 591 (by decide +kernel) rfl
theorem u592 : (Cond.static ({ cls := "SmokeTalk$Menu", name := "holds", desc := "(II)Z" } : MethodName)) ∈ UU := uu 592 (by decide +kernel) rfl
theorem u593 : (Cond.code ({ cls := "SmokeTalk$Menu", name := "holds", desc := "(II)Z" } : MethodName) prog_3_method_16_code (2 : Nat) (Option.some FieldType.boolean)) ∈ UU := uu 593 (by decide +kernel) rfl
theorem u594 : (Cond.methodLink "SmokeTalk$Menu" (40 : Nat) ({ cls := "SmokeTalk$Menu", name := "standsOff", desc := "(III)Z" } : MethodName)) ∈ UU := uu 594 (by decide +kernel) rfl
theorem u596 : (Cond.instanceMethod ({ cls := "SmokeTalk$Menu", name := "standsOff", desc := "(III)Z" } : MethodName)) ∈ UU := uu 596 (by decide +kernel) rfl
theorem u597 : (Cond.code ({ cls := "SmokeTalk$Menu", name := "standsOff", desc := "(III)Z" } : MethodName) prog_3_method_15_code (5 : Nat) (Option.some FieldType.boolean)) ∈ UU := uu 597 (by decide +kernel) rfl
theorem u598 : (Cond.methodLink "SmokeTalk$Menu" (44 : Nat) ({ cls := "java/lang/Integer", name := "bitCount", desc := "(I)I" } : MethodName)) ∈ UU := uu 598 (by decide +kernel) rfl
theorem u599 : (Cond.methodLink "SmokeTalk" (240 : Nat) ({ cls := "java/lang/Math", name := "max", desc := "(II)I" } : MethodName)) ∈ UU := uu 599 (by decide +kernel) rfl
theorem u600 : (Cond.static ({ cls := "java/lang/Math", name := "max", desc := "(II)I" } : MethodName)) ∈ UU := uu 600 (by decide +kernel) rfl
theorem u601 : (Cond.code ({ cls := "java/lang/Math", name := "max", desc := "(II)I" } : MethodName) prog_11_method_65_code (2 : Nat) (Option.some FieldType.int)) ∈ UU := uu 601 (by decide +kernel) rfl
theorem u602 : (Cond.methodLink "SmokeTalkLaw" (99 : Nat) ({ cls := "SmokeTalk", name := "feast", desc := "(II)I" } : MethodName)) ∈ UU := uu 602 (by decide +kernel) rfl
theorem u603 : (Cond.instanceMethod ({ cls := "SmokeTalk", name := "feast", desc := "(II)I" } : MethodName)) ∈ UU := uu 603 (by decide +kernel) rfl
theorem u604 : (Cond.selects "SmokeTalk" ({ cls := "SmokeTalk", name := "feast", desc := "(II)I" } : MethodName) ({ cls := "SmokeTalk", name := "feast", desc := "(II)I" } : MethodName)) ∈ UU := uu 604 (by decide +kernel) rfl
theorem u605 : (Cond.code ({ cls := "SmokeTalk", name := "feast", desc := "(II)I" } : MethodName) prog_1_method_21_code (6 : Nat) (Option.some FieldType.int)) ∈ UU := uu 605 (by decide +kernel) rfl
theorem u606 : (Cond.methodLink "SmokeTalk" (243 : Nat) ({ cls := "SmokeTalk$Menu", name := "smokeOfAll", desc := "(I)I" } : MethodName)) ∈ UU := uu 606 (by decide +kernel) rfl
theorem u607 : (Cond.instanceMethod ({ cls := "SmokeTalk$Menu", name := "smokeOfAll", desc := "(I)I" } : MethodName)) ∈ UU := uu 607 (by decide +kernel) rfl
theorem u608 : (Cond.selects "SmokeTalk$Menu" ({ cls := "SmokeTalk$Menu", name := "smokeOfAll", desc := "(I)I" } : MethodName) ({ cls := "SmokeTalk$Menu", name := "smokeOfAll", desc := "(I)I" } : MethodName)) ∈ UU := uu 608 (by decide +kernel) rfl
theorem u609 : (Cond.code ({ cls := "SmokeTalk$Menu", name := "smokeOfAll", desc := "(I)I" } : MethodName) prog_3_method_12_code (4 : Nat) (Option.some FieldType.int)) ∈ UU := uu 609 (by decide +kernel) rfl
theorem u610 : (Cond.methodLink "SmokeTalk" (246 : Nat) ({ cls := "SmokeTalk$Menu", name := "anySays", desc := "(II)Z" } : MethodName)) ∈ UU := uu 610 (by decide +kernel) rfl
theorem u611 : (Cond.instanceMethod ({ cls := "SmokeTalk$Menu", name := "anySays", desc := "(II)Z" } : MethodName)) ∈ UU := uu 611 (by decide +kernel) rfl
theorem u612 : (Cond.selects "SmokeTalk$Menu" ({ cls := "SmokeTalk$Menu", name := "anySays", desc := "(II)Z" } : MethodName) ({ cls := "SmokeTalk$Menu", name := "anySays", desc := "(II)Z" } : MethodName)) ∈ UU := uu 612 (by decide +kernel) rfl
theorem u613 : (Cond.code ({ cls := "SmokeTalk$Menu", name := "anySays", desc := "(II)Z" } : MethodName) prog_3_method_13_code (4 : Nat) (Option.some FieldType.boolean)) ∈ UU := uu 613 (by decide +kernel) rfl
theorem u614 : (Cond.methodLink "SmokeTalkLaw" (103 : Nat) ({ cls := "SmokeTalk", name := "silent", desc := "(I)I" } : MethodName)) ∈ UU := uu 614 (by decide +kernel) rfl
theorem u615 : (Cond.instanceMethod ({ cls := "SmokeTalk", name := "silent", desc := "(I)I" } : MethodName)) ∈ UU := uu 615 (by decide +kernel) rfl
theorem u616 : (Cond.selects "SmokeTalk" ({ cls := "SmokeTalk", name := "silent", desc := "(I)I" } : MethodName) ({ cls := "SmokeTalk", name := "silent", desc := "(I)I" } : MethodName)) ∈ UU := uu 616 (by decide +kernel) rfl
theorem u617 : (Cond.code ({ cls := "SmokeTalk", name := "silent", desc := "(I)I" } : MethodName) prog_1_method_22_code (4 : Nat) (Option.some FieldType.int)) ∈ UU := uu 617 (by decide +kernel) rfl
theorem u618 : (Cond.methodLink "SmokeTalkLaw" (107 : Nat) ({ cls := "SmokeTalk", name := "drawn", desc := "(I)I" } : MethodName)) ∈ UU := uu 618 (by decide +kernel) rfl
theorem u619 : (Cond.instanceMethod ({ cls := "SmokeTalk", name := "drawn", desc := "(I)I" } : MethodName)) ∈ UU := uu 619 (by decide +kernel) rfl
theorem u620 : (Cond.selects "SmokeTalk" ({ cls := "SmokeTalk", name := "drawn", desc := "(I)I" } : MethodName) ({ cls := "SmokeTalk", name := "drawn", desc := "(I)I" } : MethodName)) ∈ UU := uu 620 (by decide +kernel) rfl
theorem u621 : (Cond.code ({ cls := "SmokeTalk", name := "drawn", desc := "(I)I" } : MethodName) prog_1_method_23_code (4 : Nat) (Option.some FieldType.int)) ∈ UU := uu 621 (by decide +kernel) rfl
theorem u622 : (Cond.methodLink "SmokeTalk" (249 : Nat) ({ cls := "SmokeTalk$Suppers", name := "draw", desc := "()I" } : MethodName)) ∈ UU := uu 622 (by decide +kernel) rfl
theorem u623 : (Cond.instanceMethod ({ cls := "SmokeTalk$Suppers", name := "draw", desc := "()I" } : MethodName)) ∈ UU := uu 623 (by decide +kernel) rfl
theorem u624 : (Cond.selects "SmokeTalk$Suppers" ({ cls := "SmokeTalk$Suppers", name := "draw", desc := "()I" } : MethodName) ({ cls := "SmokeTalk$Suppers", name := "draw", desc := "()I" } : MethodName)) ∈ UU := uu 624 (by decide +kernel) rfl
theorem u625 : (Cond.code ({ cls := "SmokeTalk$Suppers", name := "draw", desc := "()I" } : MethodName) prog_5_method_11_code (1 : Nat) (Option.some FieldType.int)) ∈ UU := uu 625 (by decide +kernel) rfl
theorem u626 : (Cond.constant "SmokeTalk$Suppers" (42 : Nat) (1103515245 : Int32)) ∈ UU := uu 626 (by decide +kernel) rfl
theorem u627 : (Cond.methodLink "SmokeTalkLaw" (111 : Nat) ({ cls := "SmokeTalk", name := "lot", desc := "(I)I" } : MethodName)) ∈ UU := uu 627 (by decide +kernel) rfl
theorem u628 : (Cond.instanceMethod ({ cls := "SmokeTalk", name := "lot", desc := "(I)I" } : MethodName)) ∈ UU := uu 628 (by decide +kernel) rfl
theorem u629 : (Cond.selects "SmokeTalk" ({ cls := "SmokeTalk", name := "lot", desc := "(I)I" } : MethodName) ({ cls := "SmokeTalk", name := "lot", desc := "(I)I" } : MethodName)) ∈ UU := uu 629 (by decide +kernel) rfl
theorem u630 : (Cond.code ({ cls := "SmokeTalk", name := "lot", desc := "(I)I" } : MethodName) prog_1_method_24_code (3 : Nat) (Option.some FieldType.int)) ∈ UU := uu 630 (by decide +kernel) rfl
theorem u631 : (Cond.methodLink "SmokeTalkLaw" (115 : Nat) ({ cls := "SmokeTalk", name := "mark", desc := "(II)I" } : MethodName)) ∈ UU := uu 631 (by decide +kernel) rfl
theorem u632 : (Cond.instanceMethod ({ cls := "SmokeTalk", name := "mark", desc := "(II)I" } : MethodName)) ∈ UU := uu 632 (by decide +kernel) rfl
theorem u633 : (Cond.selects "SmokeTalk" ({ cls := "SmokeTalk", name := "mark", desc := "(II)I" } : MethodName) ({ cls := "SmokeTalk", name := "mark", desc := "(II)I" } : MethodName)) ∈ UU := uu 633 (by decide +kernel) rfl
theorem u634 : (Cond.code ({ cls := "SmokeTalk", name := "mark", desc := "(II)I" } : MethodName) prog_1_method_25_code (3 : Nat) (Option.some FieldType.int)) ∈ UU := uu 634 (by decide +kernel) rfl
theorem u635 : (Cond.constant "SmokeTalk" (253 : Nat) (-1000000 : Int32)) ∈ UU := uu 635 (by decide +kernel) rfl
theorem u636 : (Cond.methodLink "SmokeTalk" (254 : Nat) ({ cls := "SmokeTalk", name := "markOfDish", desc := "(I)I" } : MethodName)) ∈ UU := uu 636 (by decide +kernel) rfl
theorem u638 : (Cond.instanceMethod ({ cls := "SmokeTalk", name := "markOfDish", desc := "(I)I" } : MethodName)) ∈ UU := uu 638 (by decide +kernel) rfl
theorem u639 : (Cond.code ({ cls := "SmokeTalk", name := "markOfDish", desc := "(I)I" } : MethodName) prog_1_method_37_code (2 : Nat) (Option.some FieldType.int)) ∈ UU := uu 639 (by decide +kernel) rfl
theorem u640 : (Cond.methodLink "SmokeTalk" (257 : Nat) ({ cls := "SmokeTalk", name := "markOfStew", desc := "(I)I" } : MethodName)) ∈ UU := uu 640 (by decide +kernel) rfl
theorem u642 : (Cond.instanceMethod ({ cls := "SmokeTalk", name := "markOfStew", desc := "(I)I" } : MethodName)) ∈ UU := uu 642 (by decide +kernel) rfl
theorem u643 : (Cond.code ({ cls := "SmokeTalk", name := "markOfStew", desc := "(I)I" } : MethodName) prog_1_method_38_code (2 : Nat) (Option.some FieldType.int)) ∈ UU := uu 643 (by decide +kernel) rfl
theorem u644 : (Cond.constantLong "SmokeTalk" (280 : Nat) (10 : Int64)) ∈ UU := uu 644 (by decide +kernel) rfl
theorem u645 : (Cond.methodLink "SmokeTalk" (260 : Nat) ({ cls := "SmokeTalk", name := "markOfRoast", desc := "(I)I" } : MethodName)) ∈ UU := uu 645 (by decide +kernel) rfl
theorem u647 : (Cond.instanceMethod ({ cls := "SmokeTalk", name := "markOfRoast", desc := "(I)I" } : MethodName)) ∈ UU := uu 647 (by decide +kernel) rfl
theorem u648 : (Cond.code ({ cls := "SmokeTalk", name := "markOfRoast", desc := "(I)I" } : MethodName) prog_1_method_39_code (2 : Nat) (Option.some FieldType.int)) ∈ UU := uu 648 (by decide +kernel) rfl
theorem u649 : (Cond.constantLong "SmokeTalk" (282 : Nat) (100 : Int64)) ∈ UU := uu 649 (by decide +kernel) rfl
theorem u650 : (Cond.methodLink "SmokeTalk" (263 : Nat) ({ cls := "SmokeTalk", name := "markOfBrides", desc := "(I)I" } : MethodName)) ∈ UU := uu 650 (by decide +kernel) rfl
theorem u652 : (Cond.instanceMethod ({ cls := "SmokeTalk", name := "markOfBrides", desc := "(I)I" } : MethodName)) ∈ UU := uu 652 (by decide +kernel) rfl
theorem u653 : (Cond.code ({ cls := "SmokeTalk", name := "markOfBrides", desc := "(I)I" } : MethodName) prog_1_method_40_code (2 : Nat) (Option.some FieldType.int)) ∈ UU := uu 653 (by decide +kernel) rfl
theorem u654 : (Cond.methodLink "SmokeTalk" (266 : Nat) ({ cls := "SmokeTalk", name := "markOfPoor", desc := "(I)I" } : MethodName)) ∈ UU := uu 654 (by decide +kernel) rfl
theorem u656 : (Cond.instanceMethod ({ cls := "SmokeTalk", name := "markOfPoor", desc := "(I)I" } : MethodName)) ∈ UU := uu 656 (by decide +kernel) rfl
theorem u657 : (Cond.code ({ cls := "SmokeTalk", name := "markOfPoor", desc := "(I)I" } : MethodName) prog_1_method_41_code (2 : Nat) (Option.some FieldType.int)) ∈ UU := uu 657 (by decide +kernel) rfl
theorem u658 : (Cond.constantLong "SmokeTalk" (284 : Nat) (10000 : Int64)) ∈ UU := uu 658 (by decide +kernel) rfl
theorem u659 : (Cond.methodLink "SmokeTalk" (269 : Nat) ({ cls := "SmokeTalk", name := "markOfBurnt", desc := "(I)I" } : MethodName)) ∈ UU := uu 659 (by decide +kernel) rfl
theorem u661 : (Cond.instanceMethod ({ cls := "SmokeTalk", name := "markOfBurnt", desc := "(I)I" } : MethodName)) ∈ UU := uu 661 (by decide +kernel) rfl
theorem u662 : (Cond.code ({ cls := "SmokeTalk", name := "markOfBurnt", desc := "(I)I" } : MethodName) prog_1_method_42_code (2 : Nat) (Option.some FieldType.int)) ∈ UU := uu 662 (by decide +kernel) rfl
theorem u663 : (Cond.constantLong "SmokeTalk" (286 : Nat) (100000 : Int64)) ∈ UU := uu 663 (by decide +kernel) rfl
theorem u664 : (Cond.methodLink "SmokeTalkLaw" (119 : Nat) ({ cls := "SmokeTalk", name := "keep", desc := "(I)I" } : MethodName)) ∈ UU := uu 664 (by decide +kernel) rfl
theorem u665 : (Cond.instanceMethod ({ cls := "SmokeTalk", name := "keep", desc := "(I)I" } : MethodName)) ∈ UU := uu 665 (by decide +kernel) rfl
theorem u666 : (Cond.selects "SmokeTalk" ({ cls := "SmokeTalk", name := "keep", desc := "(I)I" } : MethodName) ({ cls := "SmokeTalk", name := "keep", desc := "(I)I" } : MethodName)) ∈ UU := uu 666 (by decide +kernel) rfl
theorem u667 : (Cond.code ({ cls := "SmokeTalk", name := "keep", desc := "(I)I" } : MethodName) prog_1_method_26_code (3 : Nat) (Option.some FieldType.int)) ∈ UU := uu 667 (by decide +kernel) rfl
theorem u668 : (Cond.methodLink "SmokeTalk" (272 : Nat) ({ cls := "SmokeTalk", name := "imageOf", desc := "(I)LSmokeTalk$Suppers;" } : MethodName)) ∈ UU := uu 668 (by decide +kernel) rfl
theorem u670 : (Cond.instanceMethod ({ cls := "SmokeTalk", name := "imageOf", desc := "(I)LSmokeTalk$Suppers;" } : MethodName)) ∈ UU := uu 670 (by decide +kernel) rfl
theorem u671 : (Cond.code ({ cls := "SmokeTalk", name := "imageOf", desc := "(I)LSmokeTalk$Suppers;" } : MethodName) prog_1_method_36_code (2 : Nat) (Option.some (FieldType.object "SmokeTalk$Suppers"))) ∈ UU := uu 671 (by decide +kernel) rfl
theorem u672 : (Cond.methodLink "SmokeTalkLaw" (123 : Nat) ({ cls := "SmokeTalk", name := "back", desc := "(I)I" } : MethodName)) ∈ UU := uu 672 (by decide +kernel) rfl
theorem u673 : (Cond.instanceMethod ({ cls := "SmokeTalk", name := "back", desc := "(I)I" } : MethodName)) ∈ UU := uu 673 (by decide +kernel) rfl
theorem u674 : (Cond.selects "SmokeTalk" ({ cls := "SmokeTalk", name := "back", desc := "(I)I" } : MethodName) ({ cls := "SmokeTalk", name := "back", desc := "(I)I" } : MethodName)) ∈ UU := uu 674 (by decide +kernel) rfl
theorem u675 : (Cond.code ({ cls := "SmokeTalk", name := "back", desc := "(I)I" } : MethodName) prog_1_method_27_code (3 : Nat) (Option.some FieldType.int)) ∈ UU := uu 675 (by decide +kernel) rfl
theorem u676 : (Cond.methodLink "SmokeTalkLaw" (127 : Nat) ({ cls := "SmokeTalk", name := "count", desc := "(I)I" } : MethodName)) ∈ UU := uu 676 (by decide +kernel) rfl
theorem u677 : (Cond.instanceMethod ({ cls := "SmokeTalk", name := "count", desc := "(I)I" } : MethodName)) ∈ UU := uu 677 (by decide +kernel) rfl
theorem u678 : (Cond.selects "SmokeTalk" ({ cls := "SmokeTalk", name := "count", desc := "(I)I" } : MethodName) ({ cls := "SmokeTalk", name := "count", desc := "(I)I" } : MethodName)) ∈ UU := uu 678 (by decide +kernel) rfl
theorem u679 : (Cond.code ({ cls := "SmokeTalk", name := "count", desc := "(I)I" } : MethodName) prog_1_method_28_code (2 : Nat) (Option.some FieldType.int)) ∈ UU := uu 679 (by decide +kernel) rfl
theorem u680 : (Cond.methodLink "SmokeTalkLaw" (131 : Nat) ({ cls := "SmokeTalk", name := "trace", desc := "()J" } : MethodName)) ∈ UU := uu 680 (by decide +kernel) rfl
theorem u681 : (Cond.instanceMethod ({ cls := "SmokeTalk", name := "trace", desc := "()J" } : MethodName)) ∈ UU := uu 681 (by decide +kernel) rfl
theorem u682 : (Cond.selects "SmokeTalk" ({ cls := "SmokeTalk", name := "trace", desc := "()J" } : MethodName) ({ cls := "SmokeTalk", name := "trace", desc := "()J" } : MethodName)) ∈ UU := uu 682 (by decide +kernel) rfl
theorem u683 : (Cond.code ({ cls := "SmokeTalk", name := "trace", desc := "()J" } : MethodName) prog_1_method_29_code (1 : Nat) (Option.some FieldType.long)) ∈ UU := uu 683 (by decide +kernel) rfl
theorem u684 : (Cond.classLink "SmokeTalkLaw" (10 : Nat) "SmokeTalkModel") ∈ UU := uu 684 (by decide +kernel) rfl
theorem u685 : (Cond.instantiable "SmokeTalkModel" (24 : Nat)) ∈ UU := uu 685 (by decide +kernel) rfl
theorem u686 : (Cond.methodLink "SmokeTalkLaw" (12 : Nat) ({ cls := "SmokeTalkModel", name := "<init>", desc := "()V" } : MethodName)) ∈ UU := uu 686 (by decide +kernel) rfl
theorem u687 : (Cond.instanceMethod ({ cls := "SmokeTalkModel", name := "<init>", desc := "()V" } : MethodName)) ∈ UU := uu 687 (by decide +kernel) rfl
theorem u688 : (Cond.code ({ cls := "SmokeTalkModel", name := "<init>", desc := "()V" } : MethodName) prog_9_method_1_code (1 : Nat) (Option.none : Option FieldType)) ∈ UU := uu 688 (by decide +kernel) rfl
theorem u689 : (Cond.methodLink "SmokeTalkModel" (1 : Nat) ({ cls := "java/lang/Object", name := "<init>", desc := "()V" } : MethodName)) ∈ UU := uu 689 (by decide +kernel) rfl
theorem u690 : (Cond.fieldLink "SmokeTalkModel" (177 : Nat) "SmokeTalkModel" "trace" "J") ∈ UU := uu 690 (by decide +kernel) rfl
theorem u691 : (Cond.fieldLink "SmokeTalkModel" (7 : Nat) "SmokeTalkModel" "text" "[B") ∈ UU := uu 691 (by decide +kernel) rfl
theorem u692 : (Cond.fieldLink "SmokeTalkModel" (65 : Nat) "SmokeTalkModel" "typed" "I") ∈ UU := uu 692 (by decide +kernel) rfl
theorem u693 : (Cond.fieldLink "SmokeTalkModel" (13 : Nat) "SmokeTalkModel" "houses" "[I") ∈ UU := uu 693 (by decide +kernel) rfl
theorem u694 : (Cond.fieldLink "SmokeTalkModel" (17 : Nat) "SmokeTalkModel" "larder" "[I") ∈ UU := uu 694 (by decide +kernel) rfl
theorem u695 : (Cond.fieldLink "SmokeTalkModel" (20 : Nat) "SmokeTalkModel" "dishes" "[I") ∈ UU := uu 695 (by decide +kernel) rfl
theorem u696 : (Cond.fieldLink "SmokeTalkModel" (23 : Nat) "SmokeTalkModel" "needs" "[I") ∈ UU := uu 696 (by decide +kernel) rfl
theorem u697 : (Cond.fieldLink "SmokeTalkModel" (26 : Nat) "SmokeTalkModel" "smoke" "[I") ∈ UU := uu 697 (by decide +kernel) rfl
theorem u698 : (Cond.fieldLink "SmokeTalkModel" (29 : Nat) "SmokeTalkModel" "word" "[I") ∈ UU := uu 698 (by decide +kernel) rfl
theorem u699 : (Cond.fieldLink "SmokeTalkModel" (32 : Nat) "SmokeTalkModel" "fogs" "[I") ∈ UU := uu 699 (by decide +kernel) rfl
theorem u700 : (Cond.fieldLink "SmokeTalkModel" (71 : Nat) "SmokeTalkModel" "at" "I") ∈ UU := uu 700 (by decide +kernel) rfl
theorem u701 : (Cond.fieldLink "SmokeTalkModel" (78 : Nat) "SmokeTalkModel" "start" "I") ∈ UU := uu 701 (by decide +kernel) rfl
theorem u702 : (Cond.fieldLink "SmokeTalkModel" (84 : Nat) "SmokeTalkModel" "sort" "I") ∈ UU := uu 702 (by decide +kernel) rfl
theorem u703 : (Cond.fieldLink "SmokeTalkModel" (81 : Nat) "SmokeTalkModel" "value" "I") ∈ UU := uu 703 (by decide +kernel) rfl
theorem u704 : (Cond.fieldLink "SmokeTalkModel" (91 : Nat) "SmokeTalkModel" "fault" "I") ∈ UU := uu 704 (by decide +kernel) rfl
theorem u705 : (Cond.fieldLink "SmokeTalkModel" (101 : Nat) "SmokeTalkModel" "hasFog" "Z") ∈ UU := uu 705 (by decide +kernel) rfl
theorem u706 : (Cond.fieldLink "SmokeTalkModel" (35 : Nat) "SmokeTalkModel" "now" "[I") ∈ UU := uu 706 (by decide +kernel) rfl
theorem u707 : (Cond.fieldLink "SmokeTalkModel" (38 : Nat) "SmokeTalkModel" "isKept" "[Z") ∈ UU := uu 707 (by decide +kernel) rfl
theorem u708 : (Cond.fieldLink "SmokeTalkModel" (42 : Nat) "SmokeTalkModel" "row" "[I") ∈ UU := uu 708 (by decide +kernel) rfl
theorem u709 : (Cond.fieldLink "SmokeTalkModel" (45 : Nat) "SmokeTalkModel" "best" "[I") ∈ UU := uu 709 (by decide +kernel) rfl
theorem u710 : (Cond.fieldLink "SmokeTalkModel" (48 : Nat) "SmokeTalkModel" "asked" "[I") ∈ UU := uu 710 (by decide +kernel) rfl
theorem u711 : (Cond.fieldLink "SmokeTalkModel" (51 : Nat) "SmokeTalkModel" "share" "[J") ∈ UU := uu 711 (by decide +kernel) rfl
theorem u712 : (Cond.fieldLink "SmokeTalkModel" (55 : Nat) "SmokeTalkModel" "then" "[J") ∈ UU := uu 712 (by decide +kernel) rfl
theorem u713 : (Cond.fieldLink "SmokeTalkModel" (58 : Nat) "SmokeTalkModel" "left" "[I") ∈ UU := uu 713 (by decide +kernel) rfl
theorem u763 : (Cond.arrayClass FieldType.boolean) ∈ UU := uu 763 (by decide +kernel) rfl
theorem u764 : (Cond.methodLink "SmokeTalkLaw" (19 : Nat) ({ cls := "SmokeTalkModel", name := "type", desc := "(JI)I" } : MethodName)) ∈ UU := uu 764 (by decide +kernel) rfl
theorem u765 : (Cond.instanceMethod ({ cls := "SmokeTalkModel", name := "type", desc := "(JI)I" } : MethodName)) ∈ UU := uu 765 (by decide +kernel) rfl
theorem u766 : (Cond.selects "SmokeTalkModel" ({ cls := "SmokeTalkModel", name := "type", desc := "(JI)I" } : MethodName) ({ cls := "SmokeTalkModel", name := "type", desc := "(JI)I" } : MethodName)) ∈ UU := uu 766 (by decide +kernel) rfl
theorem u767 : (Cond.code ({ cls := "SmokeTalkModel", name := "type", desc := "(JI)I" } : MethodName) prog_9_method_4_code (5 : Nat) (Option.some FieldType.int)) ∈ UU := uu 767 (by decide +kernel) rfl
theorem u768 : (Cond.methodLink "SmokeTalkModel" (61 : Nat) ({ cls := "SmokeTalkModel", name := "in", desc := "(III)Z" } : MethodName)) ∈ UU := uu 768 (by decide +kernel) rfl
theorem u769 : (Cond.static ({ cls := "SmokeTalkModel", name := "in", desc := "(III)Z" } : MethodName)) ∈ UU := uu 769 (by decide +kernel) rfl
theorem u770 : (Cond.code ({ cls := "SmokeTalkModel", name := "in", desc := "(III)Z" } : MethodName) prog_9_method_3_code (3 : Nat) (Option.some FieldType.boolean)) ∈ UU := uu 770 (by decide +kernel) rfl
theorem u771 : (Cond.constantLong "SmokeTalkModel" (69 : Nat) (255 : Int64)) ∈ UU := uu 771 (by decide +kernel) rfl
theorem u772 : (Cond.methodLink "SmokeTalkLaw" (24 : Nat) ({ cls := "SmokeTalkModel", name := "clear", desc := "()I" } : MethodName)) ∈ UU := uu 772 (by decide +kernel) rfl
theorem u773 : (Cond.instanceMethod ({ cls := "SmokeTalkModel", name := "clear", desc := "()I" } : MethodName)) ∈ UU := uu 773 (by decide +kernel) rfl
theorem u774 : (Cond.selects "SmokeTalkModel" ({ cls := "SmokeTalkModel", name := "clear", desc := "()I" } : MethodName) ({ cls := "SmokeTalkModel", name := "clear", desc := "()I" } : MethodName)) ∈ UU := uu 774 (by decide +kernel) rfl
theorem u775 : (Cond.code ({ cls := "SmokeTalkModel", name := "clear", desc := "()I" } : MethodName) prog_9_method_5_code (2 : Nat) (Option.some FieldType.int)) ∈ UU := uu 775 (by decide +kernel) rfl
theorem u776 : (Cond.methodLink "SmokeTalkLaw" (28 : Nat) ({ cls := "SmokeTalkModel", name := "valley", desc := "()I" } : MethodName)) ∈ UU := uu 776 (by decide +kernel) rfl
theorem u777 : (Cond.instanceMethod ({ cls := "SmokeTalkModel", name := "valley", desc := "()I" } : MethodName)) ∈ UU := uu 777 (by decide +kernel) rfl
theorem u778 : (Cond.selects "SmokeTalkModel" ({ cls := "SmokeTalkModel", name := "valley", desc := "()I" } : MethodName) ({ cls := "SmokeTalkModel", name := "valley", desc := "()I" } : MethodName)) ∈ UU := uu 778 (by decide +kernel) rfl
theorem u779 : (Cond.code ({ cls := "SmokeTalkModel", name := "valley", desc := "()I" } : MethodName) prog_9_method_12_code (3 : Nat) (Option.some FieldType.int)) ∈ UU := uu 779 (by decide +kernel) rfl
theorem u780 : (Cond.methodLink "SmokeTalkModel" (94 : Nat) ({ cls := "SmokeTalkModel", name := "next", desc := "()V" } : MethodName)) ∈ UU := uu 780 (by decide +kernel) rfl
theorem u782 : (Cond.instanceMethod ({ cls := "SmokeTalkModel", name := "next", desc := "()V" } : MethodName)) ∈ UU := uu 782 (by decide +kernel) rfl
theorem u783 : (Cond.code ({ cls := "SmokeTalkModel", name := "next", desc := "()V" } : MethodName) prog_9_method_8_code (3 : Nat) (Option.none : Option FieldType)) ∈ UU := uu 783 (by decide +kernel) rfl
theorem u784 : (Cond.methodLink "SmokeTalkModel" (74 : Nat) ({ cls := "SmokeTalkModel", name := "here", desc := "()I" } : MethodName)) ∈ UU := uu 784 (by decide +kernel) rfl
theorem u786 : (Cond.instanceMethod ({ cls := "SmokeTalkModel", name := "here", desc := "()I" } : MethodName)) ∈ UU := uu 786 (by decide +kernel) rfl
theorem u787 : (Cond.code ({ cls := "SmokeTalkModel", name := "here", desc := "()I" } : MethodName) prog_9_method_6_code (1 : Nat) (Option.some FieldType.int)) ∈ UU := uu 787 (by decide +kernel) rfl
theorem u788 : (Cond.methodLink "SmokeTalkModel" (87 : Nat) ({ cls := "SmokeTalkModel", name := "meaning", desc := "(I)I" } : MethodName)) ∈ UU := uu 788 (by decide +kernel) rfl
theorem u789 : (Cond.static ({ cls := "SmokeTalkModel", name := "meaning", desc := "(I)I" } : MethodName)) ∈ UU := uu 789 (by decide +kernel) rfl
theorem u790 : (Cond.code ({ cls := "SmokeTalkModel", name := "meaning", desc := "(I)I" } : MethodName) prog_9_method_7_code (1 : Nat) (Option.some FieldType.int)) ∈ UU := uu 790 (by decide +kernel) rfl
theorem u791 : (Cond.methodLink "SmokeTalkModel" (108 : Nat) ({ cls := "SmokeTalkModel", name := "readItem", desc := "()V" } : MethodName)) ∈ UU := uu 791 (by decide +kernel) rfl
theorem u793 : (Cond.instanceMethod ({ cls := "SmokeTalkModel", name := "readItem", desc := "()V" } : MethodName)) ∈ UU := uu 793 (by decide +kernel) rfl
theorem u794 : (Cond.code ({ cls := "SmokeTalkModel", name := "readItem", desc := "()V" } : MethodName) prog_9_method_11_code (4 : Nat) (Option.none : Option FieldType)) ∈ UU := uu 794 (by decide +kernel) rfl
theorem u795 : (Cond.methodLink "SmokeTalkModel" (97 : Nat) ({ cls := "SmokeTalkModel", name := "due", desc := "(Z)I" } : MethodName)) ∈ UU := uu 795 (by decide +kernel) rfl
theorem u797 : (Cond.instanceMethod ({ cls := "SmokeTalkModel", name := "due", desc := "(Z)I" } : MethodName)) ∈ UU := uu 797 (by decide +kernel) rfl
theorem u798 : (Cond.code ({ cls := "SmokeTalkModel", name := "due", desc := "(Z)I" } : MethodName) prog_9_method_9_code (3 : Nat) (Option.some FieldType.int)) ∈ UU := uu 798 (by decide +kernel) rfl
theorem u799 : (Cond.methodLink "SmokeTalkModel" (105 : Nat) ({ cls := "SmokeTalkModel", name := "number", desc := "(I)I" } : MethodName)) ∈ UU := uu 799 (by decide +kernel) rfl
theorem u801 : (Cond.instanceMethod ({ cls := "SmokeTalkModel", name := "number", desc := "(I)I" } : MethodName)) ∈ UU := uu 801 (by decide +kernel) rfl
theorem u802 : (Cond.code ({ cls := "SmokeTalkModel", name := "number", desc := "(I)I" } : MethodName) prog_9_method_10_code (2 : Nat) (Option.some FieldType.int)) ∈ UU := uu 802 (by decide +kernel) rfl
theorem u803 : (Cond.methodLink "SmokeTalkLaw" (33 : Nat) ({ cls := "SmokeTalkModel", name := "house", desc := "(II)I" } : MethodName)) ∈ UU := uu 803 (by decide +kernel) rfl
theorem u804 : (Cond.instanceMethod ({ cls := "SmokeTalkModel", name := "house", desc := "(II)I" } : MethodName)) ∈ UU := uu 804 (by decide +kernel) rfl
theorem u805 : (Cond.selects "SmokeTalkModel" ({ cls := "SmokeTalkModel", name := "house", desc := "(II)I" } : MethodName) ({ cls := "SmokeTalkModel", name := "house", desc := "(II)I" } : MethodName)) ∈ UU := uu 805 (by decide +kernel) rfl
theorem u806 : (Cond.code ({ cls := "SmokeTalkModel", name := "house", desc := "(II)I" } : MethodName) prog_9_method_18_code (3 : Nat) (Option.some FieldType.int)) ∈ UU := uu 806 (by decide +kernel) rfl
theorem u807 : (Cond.methodLink "SmokeTalkModel" (111 : Nat) ({ cls := "SmokeTalkModel", name := "isHouse", desc := "(I)Z" } : MethodName)) ∈ UU := uu 807 (by decide +kernel) rfl
theorem u809 : (Cond.instanceMethod ({ cls := "SmokeTalkModel", name := "isHouse", desc := "(I)Z" } : MethodName)) ∈ UU := uu 809 (by decide +kernel) rfl
theorem u810 : (Cond.code ({ cls := "SmokeTalkModel", name := "isHouse", desc := "(I)Z" } : MethodName) prog_9_method_13_code (2 : Nat) (Option.some FieldType.boolean)) ∈ UU := uu 810 (by decide +kernel) rfl
theorem u811 : (Cond.methodLink "SmokeTalkModel" (115 : Nat) ({ cls := "SmokeTalkModel", name := "storeOf", desc := "(I)I" } : MethodName)) ∈ UU := uu 811 (by decide +kernel) rfl
theorem u813 : (Cond.instanceMethod ({ cls := "SmokeTalkModel", name := "storeOf", desc := "(I)I" } : MethodName)) ∈ UU := uu 813 (by decide +kernel) rfl
theorem u814 : (Cond.code ({ cls := "SmokeTalkModel", name := "storeOf", desc := "(I)I" } : MethodName) prog_9_method_17_code (4 : Nat) (Option.some FieldType.int)) ∈ UU := uu 814 (by decide +kernel) rfl
theorem u815 : (Cond.methodLink "SmokeTalkLaw" (37 : Nat) ({ cls := "SmokeTalkModel", name := "dish", desc := "(II)I" } : MethodName)) ∈ UU := uu 815 (by decide +kernel) rfl
theorem u816 : (Cond.instanceMethod ({ cls := "SmokeTalkModel", name := "dish", desc := "(II)I" } : MethodName)) ∈ UU := uu 816 (by decide +kernel) rfl
theorem u817 : (Cond.selects "SmokeTalkModel" ({ cls := "SmokeTalkModel", name := "dish", desc := "(II)I" } : MethodName) ({ cls := "SmokeTalkModel", name := "dish", desc := "(II)I" } : MethodName)) ∈ UU := uu 817 (by decide +kernel) rfl
theorem u818 : (Cond.code ({ cls := "SmokeTalkModel", name := "dish", desc := "(II)I" } : MethodName) prog_9_method_19_code (3 : Nat) (Option.some FieldType.int)) ∈ UU := uu 818 (by decide +kernel) rfl
theorem u819 : (Cond.methodLink "SmokeTalkModel" (118 : Nat) ({ cls := "SmokeTalkModel", name := "isDish", desc := "(I)Z" } : MethodName)) ∈ UU := uu 819 (by decide +kernel) rfl
theorem u821 : (Cond.instanceMethod ({ cls := "SmokeTalkModel", name := "isDish", desc := "(I)Z" } : MethodName)) ∈ UU := uu 821 (by decide +kernel) rfl
theorem u822 : (Cond.code ({ cls := "SmokeTalkModel", name := "isDish", desc := "(I)Z" } : MethodName) prog_9_method_14_code (2 : Nat) (Option.some FieldType.boolean)) ∈ UU := uu 822 (by decide +kernel) rfl
theorem u823 : (Cond.methodLink "SmokeTalkModel" (121 : Nat) ({ cls := "SmokeTalkModel", name := "unitsOf", desc := "(I)I" } : MethodName)) ∈ UU := uu 823 (by decide +kernel) rfl
theorem u825 : (Cond.instanceMethod ({ cls := "SmokeTalkModel", name := "unitsOf", desc := "(I)I" } : MethodName)) ∈ UU := uu 825 (by decide +kernel) rfl
theorem u826 : (Cond.code ({ cls := "SmokeTalkModel", name := "unitsOf", desc := "(I)I" } : MethodName) prog_9_method_16_code (4 : Nat) (Option.some FieldType.int)) ∈ UU := uu 826 (by decide +kernel) rfl
theorem u827 : (Cond.methodLink "SmokeTalkLaw" (41 : Nat) ({ cls := "SmokeTalkModel", name := "cook", desc := "(II)I" } : MethodName)) ∈ UU := uu 827 (by decide +kernel) rfl
theorem u828 : (Cond.instanceMethod ({ cls := "SmokeTalkModel", name := "cook", desc := "(II)I" } : MethodName)) ∈ UU := uu 828 (by decide +kernel) rfl
theorem u829 : (Cond.selects "SmokeTalkModel" ({ cls := "SmokeTalkModel", name := "cook", desc := "(II)I" } : MethodName) ({ cls := "SmokeTalkModel", name := "cook", desc := "(II)I" } : MethodName)) ∈ UU := uu 829 (by decide +kernel) rfl
theorem u830 : (Cond.code ({ cls := "SmokeTalkModel", name := "cook", desc := "(II)I" } : MethodName) prog_9_method_21_code (4 : Nat) (Option.some FieldType.int)) ∈ UU := uu 830 (by decide +kernel) rfl
theorem u831 : (Cond.methodLink "SmokeTalkModel" (124 : Nat) ({ cls := "SmokeTalkModel", name := "canCook", desc := "(II)Z" } : MethodName)) ∈ UU := uu 831 (by decide +kernel) rfl
theorem u833 : (Cond.instanceMethod ({ cls := "SmokeTalkModel", name := "canCook", desc := "(II)Z" } : MethodName)) ∈ UU := uu 833 (by decide +kernel) rfl
theorem u834 : (Cond.code ({ cls := "SmokeTalkModel", name := "canCook", desc := "(II)Z" } : MethodName) prog_9_method_20_code (5 : Nat) (Option.some FieldType.boolean)) ∈ UU := uu 834 (by decide +kernel) rfl
theorem u835 : (Cond.methodLink "SmokeTalkLaw" (45 : Nat) ({ cls := "SmokeTalkModel", name := "undo", desc := "()I" } : MethodName)) ∈ UU := uu 835 (by decide +kernel) rfl
theorem u836 : (Cond.instanceMethod ({ cls := "SmokeTalkModel", name := "undo", desc := "()I" } : MethodName)) ∈ UU := uu 836 (by decide +kernel) rfl
theorem u837 : (Cond.selects "SmokeTalkModel" ({ cls := "SmokeTalkModel", name := "undo", desc := "()I" } : MethodName) ({ cls := "SmokeTalkModel", name := "undo", desc := "()I" } : MethodName)) ∈ UU := uu 837 (by decide +kernel) rfl
theorem u838 : (Cond.code ({ cls := "SmokeTalkModel", name := "undo", desc := "()I" } : MethodName) prog_9_method_22_code (5 : Nat) (Option.some FieldType.int)) ∈ UU := uu 838 (by decide +kernel) rfl
theorem u839 : (Cond.methodLink "SmokeTalkLaw" (50 : Nat) ({ cls := "SmokeTalkModel", name := "gives", desc := "(IIII)I" } : MethodName)) ∈ UU := uu 839 (by decide +kernel) rfl
theorem u840 : (Cond.instanceMethod ({ cls := "SmokeTalkModel", name := "gives", desc := "(IIII)I" } : MethodName)) ∈ UU := uu 840 (by decide +kernel) rfl
theorem u841 : (Cond.selects "SmokeTalkModel" ({ cls := "SmokeTalkModel", name := "gives", desc := "(IIII)I" } : MethodName) ({ cls := "SmokeTalkModel", name := "gives", desc := "(IIII)I" } : MethodName)) ∈ UU := uu 841 (by decide +kernel) rfl
theorem u842 : (Cond.code ({ cls := "SmokeTalkModel", name := "gives", desc := "(IIII)I" } : MethodName) prog_9_method_23_code (5 : Nat) (Option.some FieldType.int)) ∈ UU := uu 842 (by decide +kernel) rfl
theorem u843 : (Cond.methodLink "SmokeTalkLaw" (55 : Nat) ({ cls := "SmokeTalkModel", name := "burns", desc := "(I)I" } : MethodName)) ∈ UU := uu 843 (by decide +kernel) rfl
theorem u844 : (Cond.instanceMethod ({ cls := "SmokeTalkModel", name := "burns", desc := "(I)I" } : MethodName)) ∈ UU := uu 844 (by decide +kernel) rfl
theorem u845 : (Cond.selects "SmokeTalkModel" ({ cls := "SmokeTalkModel", name := "burns", desc := "(I)I" } : MethodName) ({ cls := "SmokeTalkModel", name := "burns", desc := "(I)I" } : MethodName)) ∈ UU := uu 845 (by decide +kernel) rfl
theorem u846 : (Cond.code ({ cls := "SmokeTalkModel", name := "burns", desc := "(I)I" } : MethodName) prog_9_method_24_code (4 : Nat) (Option.some FieldType.int)) ∈ UU := uu 846 (by decide +kernel) rfl
theorem u847 : (Cond.methodLink "SmokeTalkLaw" (59 : Nat) ({ cls := "SmokeTalkModel", name := "plume", desc := "(II)I" } : MethodName)) ∈ UU := uu 847 (by decide +kernel) rfl
theorem u848 : (Cond.instanceMethod ({ cls := "SmokeTalkModel", name := "plume", desc := "(II)I" } : MethodName)) ∈ UU := uu 848 (by decide +kernel) rfl
theorem u849 : (Cond.selects "SmokeTalkModel" ({ cls := "SmokeTalkModel", name := "plume", desc := "(II)I" } : MethodName) ({ cls := "SmokeTalkModel", name := "plume", desc := "(II)I" } : MethodName)) ∈ UU := uu 849 (by decide +kernel) rfl
theorem u850 : (Cond.code ({ cls := "SmokeTalkModel", name := "plume", desc := "(II)I" } : MethodName) prog_9_method_25_code (3 : Nat) (Option.some FieldType.int)) ∈ UU := uu 850 (by decide +kernel) rfl
theorem u851 : (Cond.methodLink "SmokeTalkLaw" (63 : Nat) ({ cls := "SmokeTalkModel", name := "fog", desc := "(I)I" } : MethodName)) ∈ UU := uu 851 (by decide +kernel) rfl
theorem u852 : (Cond.instanceMethod ({ cls := "SmokeTalkModel", name := "fog", desc := "(I)I" } : MethodName)) ∈ UU := uu 852 (by decide +kernel) rfl
theorem u853 : (Cond.selects "SmokeTalkModel" ({ cls := "SmokeTalkModel", name := "fog", desc := "(I)I" } : MethodName) ({ cls := "SmokeTalkModel", name := "fog", desc := "(I)I" } : MethodName)) ∈ UU := uu 853 (by decide +kernel) rfl
theorem u854 : (Cond.code ({ cls := "SmokeTalkModel", name := "fog", desc := "(I)I" } : MethodName) prog_9_method_26_code (3 : Nat) (Option.some FieldType.int)) ∈ UU := uu 854 (by decide +kernel) rfl
theorem u855 : (Cond.methodLink "SmokeTalkLaw" (68 : Nat) ({ cls := "SmokeTalkModel", name := "says", desc := "(IIIII)I" } : MethodName)) ∈ UU := uu 855 (by decide +kernel) rfl
theorem u856 : (Cond.instanceMethod ({ cls := "SmokeTalkModel", name := "says", desc := "(IIIII)I" } : MethodName)) ∈ UU := uu 856 (by decide +kernel) rfl
theorem u857 : (Cond.selects "SmokeTalkModel" ({ cls := "SmokeTalkModel", name := "says", desc := "(IIIII)I" } : MethodName) ({ cls := "SmokeTalkModel", name := "says", desc := "(IIIII)I" } : MethodName)) ∈ UU := uu 857 (by decide +kernel) rfl
theorem u858 : (Cond.code ({ cls := "SmokeTalkModel", name := "says", desc := "(IIIII)I" } : MethodName) prog_9_method_32_code (7 : Nat) (Option.some FieldType.int)) ∈ UU := uu 858 (by decide +kernel) rfl
theorem u859 : (Cond.methodLink "SmokeTalkModel" (134 : Nat) ({ cls := "SmokeTalkModel", name := "areWords", desc := "(III)Z" } : MethodName)) ∈ UU := uu 859 (by decide +kernel) rfl
theorem u860 : (Cond.static ({ cls := "SmokeTalkModel", name := "areWords", desc := "(III)Z" } : MethodName)) ∈ UU := uu 860 (by decide +kernel) rfl
theorem u861 : (Cond.code ({ cls := "SmokeTalkModel", name := "areWords", desc := "(III)Z" } : MethodName) prog_9_method_27_code (3 : Nat) (Option.some FieldType.boolean)) ∈ UU := uu 861 (by decide +kernel) rfl
theorem u862 : (Cond.methodLink "SmokeTalkModel" (137 : Nat) ({ cls := "SmokeTalkModel", name := "ask", desc := "(III)V" } : MethodName)) ∈ UU := uu 862 (by decide +kernel) rfl
theorem u864 : (Cond.instanceMethod ({ cls := "SmokeTalkModel", name := "ask", desc := "(III)V" } : MethodName)) ∈ UU := uu 864 (by decide +kernel) rfl
theorem u865 : (Cond.code ({ cls := "SmokeTalkModel", name := "ask", desc := "(III)V" } : MethodName) prog_9_method_30_code (4 : Nat) (Option.none : Option FieldType)) ∈ UU := uu 865 (by decide +kernel) rfl
theorem u866 : (Cond.methodLink "SmokeTalkModel" (141 : Nat) ({ cls := "SmokeTalkModel", name := "unitsFor", desc := "(II)I" } : MethodName)) ∈ UU := uu 866 (by decide +kernel) rfl
theorem u868 : (Cond.instanceMethod ({ cls := "SmokeTalkModel", name := "unitsFor", desc := "(II)I" } : MethodName)) ∈ UU := uu 868 (by decide +kernel) rfl
theorem u869 : (Cond.code ({ cls := "SmokeTalkModel", name := "unitsFor", desc := "(II)I" } : MethodName) prog_9_method_31_code (7 : Nat) (Option.some FieldType.int)) ∈ UU := uu 869 (by decide +kernel) rfl
theorem u870 : (Cond.methodLink "SmokeTalkModel" (128 : Nat) ({ cls := "SmokeTalkModel", name := "isRow", desc := "(II)Z" } : MethodName)) ∈ UU := uu 870 (by decide +kernel) rfl
theorem u872 : (Cond.instanceMethod ({ cls := "SmokeTalkModel", name := "isRow", desc := "(II)Z" } : MethodName)) ∈ UU := uu 872 (by decide +kernel) rfl
theorem u873 : (Cond.code ({ cls := "SmokeTalkModel", name := "isRow", desc := "(II)Z" } : MethodName) prog_9_method_29_code (6 : Nat) (Option.some FieldType.boolean)) ∈ UU := uu 873 (by decide +kernel) rfl
theorem u874 : (Cond.methodLink "SmokeTalkModel" (131 : Nat) ({ cls := "SmokeTalkModel", name := "hasAll", desc := "(I)Z" } : MethodName)) ∈ UU := uu 874 (by decide +kernel) rfl
theorem u876 : (Cond.instanceMethod ({ cls := "SmokeTalkModel", name := "hasAll", desc := "(I)Z" } : MethodName)) ∈ UU := uu 876 (by decide +kernel) rfl
theorem u877 : (Cond.code ({ cls := "SmokeTalkModel", name := "hasAll", desc := "(I)Z" } : MethodName) prog_9_method_28_code (6 : Nat) (Option.some FieldType.boolean)) ∈ UU := uu 877 (by decide +kernel) rfl
theorem u878 : (Cond.methodLink "SmokeTalkLaw" (72 : Nat) ({ cls := "SmokeTalkModel", name := "nearest", desc := "(IIII)I" } : MethodName)) ∈ UU := uu 878 (by decide +kernel) rfl
theorem u879 : (Cond.instanceMethod ({ cls := "SmokeTalkModel", name := "nearest", desc := "(IIII)I" } : MethodName)) ∈ UU := uu 879 (by decide +kernel) rfl
theorem u880 : (Cond.selects "SmokeTalkModel" ({ cls := "SmokeTalkModel", name := "nearest", desc := "(IIII)I" } : MethodName) ({ cls := "SmokeTalkModel", name := "nearest", desc := "(IIII)I" } : MethodName)) ∈ UU := uu 880 (by decide +kernel) rfl
theorem u881 : (Cond.code ({ cls := "SmokeTalkModel", name := "nearest", desc := "(IIII)I" } : MethodName) prog_9_method_34_code (8 : Nat) (Option.some FieldType.int)) ∈ UU := uu 881 (by decide +kernel) rfl
theorem u882 : (Cond.methodLink "SmokeTalkModel" (145 : Nat) ({ cls := "SmokeTalkModel", name := "bitsIn", desc := "(I)I" } : MethodName)) ∈ UU := uu 882 (by decide +kernel) rfl
theorem u883 : (Cond.static ({ cls := "SmokeTalkModel", name := "bitsIn", desc := "(I)I" } : MethodName)) ∈ UU := uu 883 (by decide +kernel) rfl
theorem u884 : (Cond.code ({ cls := "SmokeTalkModel", name := "bitsIn", desc := "(I)I" } : MethodName) prog_9_method_33_code (3 : Nat) (Option.some FieldType.int)) ∈ UU := uu 884 (by decide +kernel) rfl
theorem u885 : (Cond.methodLink "SmokeTalkLaw" (76 : Nat) ({ cls := "SmokeTalkModel", name := "reads", desc := "(II)I" } : MethodName)) ∈ UU := uu 885 (by decide +kernel) rfl
theorem u886 : (Cond.instanceMethod ({ cls := "SmokeTalkModel", name := "reads", desc := "(II)I" } : MethodName)) ∈ UU := uu 886 (by decide +kernel) rfl
theorem u887 : (Cond.selects "SmokeTalkModel" ({ cls := "SmokeTalkModel", name := "reads", desc := "(II)I" } : MethodName) ({ cls := "SmokeTalkModel", name := "reads", desc := "(II)I" } : MethodName)) ∈ UU := uu 887 (by decide +kernel) rfl
theorem u888 : (Cond.code ({ cls := "SmokeTalkModel", name := "reads", desc := "(II)I" } : MethodName) prog_9_method_36_code (3 : Nat) (Option.some FieldType.int)) ∈ UU := uu 888 (by decide +kernel) rfl
theorem u889 : (Cond.methodLink "SmokeTalkModel" (148 : Nat) ({ cls := "SmokeTalkModel", name := "isSmoke", desc := "(I)Z" } : MethodName)) ∈ UU := uu 889 (by decide +kernel) rfl
theorem u890 : (Cond.static ({ cls := "SmokeTalkModel", name := "isSmoke", desc := "(I)Z" } : MethodName)) ∈ UU := uu 890 (by decide +kernel) rfl
theorem u891 : (Cond.code ({ cls := "SmokeTalkModel", name := "isSmoke", desc := "(I)Z" } : MethodName) prog_9_method_15_code (1 : Nat) (Option.some FieldType.boolean)) ∈ UU := uu 891 (by decide +kernel) rfl
theorem u892 : (Cond.methodLink "SmokeTalkModel" (151 : Nat) ({ cls := "SmokeTalkModel", name := "readAs", desc := "(II)I" } : MethodName)) ∈ UU := uu 892 (by decide +kernel) rfl
theorem u894 : (Cond.instanceMethod ({ cls := "SmokeTalkModel", name := "readAs", desc := "(II)I" } : MethodName)) ∈ UU := uu 894 (by decide +kernel) rfl
theorem u895 : (Cond.code ({ cls := "SmokeTalkModel", name := "readAs", desc := "(II)I" } : MethodName) prog_9_method_35_code (5 : Nat) (Option.some FieldType.int)) ∈ UU := uu 895 (by decide +kernel) rfl
theorem u896 : (Cond.methodLink "SmokeTalkLaw" (80 : Nat) ({ cls := "SmokeTalkModel", name := "means", desc := "(I)I" } : MethodName)) ∈ UU := uu 896 (by decide +kernel) rfl
theorem u897 : (Cond.instanceMethod ({ cls := "SmokeTalkModel", name := "means", desc := "(I)I" } : MethodName)) ∈ UU := uu 897 (by decide +kernel) rfl
theorem u898 : (Cond.selects "SmokeTalkModel" ({ cls := "SmokeTalkModel", name := "means", desc := "(I)I" } : MethodName) ({ cls := "SmokeTalkModel", name := "means", desc := "(I)I" } : MethodName)) ∈ UU := uu 898 (by decide +kernel) rfl
theorem u899 : (Cond.code ({ cls := "SmokeTalkModel", name := "means", desc := "(I)I" } : MethodName) prog_9_method_38_code (2 : Nat) (Option.some FieldType.int)) ∈ UU := uu 899 (by decide +kernel) rfl
theorem u900 : (Cond.methodLink "SmokeTalkModel" (154 : Nat) ({ cls := "SmokeTalkModel", name := "meant", desc := "(I)I" } : MethodName)) ∈ UU := uu 900 (by decide +kernel) rfl
theorem u902 : (Cond.instanceMethod ({ cls := "SmokeTalkModel", name := "meant", desc := "(I)I" } : MethodName)) ∈ UU := uu 902 (by decide +kernel) rfl
theorem u903 : (Cond.code ({ cls := "SmokeTalkModel", name := "meant", desc := "(I)I" } : MethodName) prog_9_method_37_code (3 : Nat) (Option.some FieldType.int)) ∈ UU := uu 903 (by decide +kernel) rfl
theorem u904 : (Cond.methodLink "SmokeTalkLaw" (85 : Nat) ({ cls := "SmokeTalkModel", name := "chain", desc := "(III)J" } : MethodName)) ∈ UU := uu 904 (by decide +kernel) rfl
theorem u905 : (Cond.instanceMethod ({ cls := "SmokeTalkModel", name := "chain", desc := "(III)J" } : MethodName)) ∈ UU := uu 905 (by decide +kernel) rfl
theorem u906 : (Cond.selects "SmokeTalkModel" ({ cls := "SmokeTalkModel", name := "chain", desc := "(III)J" } : MethodName) ({ cls := "SmokeTalkModel", name := "chain", desc := "(III)J" } : MethodName)) ∈ UU := uu 906 (by decide +kernel) rfl
theorem u907 : (Cond.code ({ cls := "SmokeTalkModel", name := "chain", desc := "(III)J" } : MethodName) prog_9_method_41_code (10 : Nat) (Option.some FieldType.long)) ∈ UU := uu 907 (by decide +kernel) rfl
theorem u908 : (Cond.constantLong "SmokeTalkModel" (157 : Nat) (-1 : Int64)) ∈ UU := uu 908 (by decide +kernel) rfl
theorem u909 : (Cond.methodLink "SmokeTalkModel" (159 : Nat) ({ cls := "SmokeTalkModel", name := "leastOf", desc := "(I)I" } : MethodName)) ∈ UU := uu 909 (by decide +kernel) rfl
theorem u911 : (Cond.instanceMethod ({ cls := "SmokeTalkModel", name := "leastOf", desc := "(I)I" } : MethodName)) ∈ UU := uu 911 (by decide +kernel) rfl
theorem u912 : (Cond.code ({ cls := "SmokeTalkModel", name := "leastOf", desc := "(I)I" } : MethodName) prog_9_method_39_code (3 : Nat) (Option.some FieldType.int)) ∈ UU := uu 912 (by decide +kernel) rfl
theorem u913 : (Cond.constantLong "SmokeTalkModel" (162 : Nat) (1000 : Int64)) ∈ UU := uu 913 (by decide +kernel) rfl
theorem u914 : (Cond.methodLink "SmokeTalkModel" (164 : Nat) ({ cls := "SmokeTalkModel", name := "common", desc := "(JJ)J" } : MethodName)) ∈ UU := uu 914 (by decide +kernel) rfl
theorem u915 : (Cond.static ({ cls := "SmokeTalkModel", name := "common", desc := "(JJ)J" } : MethodName)) ∈ UU := uu 915 (by decide +kernel) rfl
theorem u916 : (Cond.code ({ cls := "SmokeTalkModel", name := "common", desc := "(JJ)J" } : MethodName) prog_9_method_40_code (10 : Nat) (Option.some FieldType.long)) ∈ UU := uu 916 (by decide +kernel) rfl
theorem u917 : (Cond.methodLink "SmokeTalkLaw" (90 : Nat) ({ cls := "SmokeTalkModel", name := "who", desc := "(III)I" } : MethodName)) ∈ UU := uu 917 (by decide +kernel) rfl
theorem u918 : (Cond.instanceMethod ({ cls := "SmokeTalkModel", name := "who", desc := "(III)I" } : MethodName)) ∈ UU := uu 918 (by decide +kernel) rfl
theorem u919 : (Cond.selects "SmokeTalkModel" ({ cls := "SmokeTalkModel", name := "who", desc := "(III)I" } : MethodName) ({ cls := "SmokeTalkModel", name := "who", desc := "(III)I" } : MethodName)) ∈ UU := uu 919 (by decide +kernel) rfl
theorem u920 : (Cond.code ({ cls := "SmokeTalkModel", name := "who", desc := "(III)I" } : MethodName) prog_9_method_42_code (9 : Nat) (Option.some FieldType.int)) ∈ UU := uu 920 (by decide +kernel) rfl
theorem u921 : (Cond.methodLink "SmokeTalkLaw" (94 : Nat) ({ cls := "SmokeTalkModel", name := "days", desc := "(I)I" } : MethodName)) ∈ UU := uu 921 (by decide +kernel) rfl
theorem u922 : (Cond.instanceMethod ({ cls := "SmokeTalkModel", name := "days", desc := "(I)I" } : MethodName)) ∈ UU := uu 922 (by decide +kernel) rfl
theorem u923 : (Cond.selects "SmokeTalkModel" ({ cls := "SmokeTalkModel", name := "days", desc := "(I)I" } : MethodName) ({ cls := "SmokeTalkModel", name := "days", desc := "(I)I" } : MethodName)) ∈ UU := uu 923 (by decide +kernel) rfl
theorem u924 : (Cond.code ({ cls := "SmokeTalkModel", name := "days", desc := "(I)I" } : MethodName) prog_9_method_44_code (5 : Nat) (Option.some FieldType.int)) ∈ UU := uu 924 (by decide +kernel) rfl
theorem u925 : (Cond.methodLink "SmokeTalkModel" (168 : Nat) ({ cls := "SmokeTalkModel", name := "nextSupper", desc := "()I" } : MethodName)) ∈ UU := uu 925 (by decide +kernel) rfl
theorem u927 : (Cond.instanceMethod ({ cls := "SmokeTalkModel", name := "nextSupper", desc := "()I" } : MethodName)) ∈ UU := uu 927 (by decide +kernel) rfl
theorem u928 : (Cond.code ({ cls := "SmokeTalkModel", name := "nextSupper", desc := "()I" } : MethodName) prog_9_method_43_code (5 : Nat) (Option.some FieldType.int)) ∈ UU := uu 928 (by decide +kernel) rfl
theorem u929 : (Cond.methodLink "SmokeTalkLaw" (98 : Nat) ({ cls := "SmokeTalkModel", name := "code", desc := "(III)I" } : MethodName)) ∈ UU := uu 929 (by decide +kernel) rfl
theorem u930 : (Cond.instanceMethod ({ cls := "SmokeTalkModel", name := "code", desc := "(III)I" } : MethodName)) ∈ UU := uu 930 (by decide +kernel) rfl
theorem u931 : (Cond.selects "SmokeTalkModel" ({ cls := "SmokeTalkModel", name := "code", desc := "(III)I" } : MethodName) ({ cls := "SmokeTalkModel", name := "code", desc := "(III)I" } : MethodName)) ∈ UU := uu 931 (by decide +kernel) rfl
theorem u932 : (Cond.code ({ cls := "SmokeTalkModel", name := "code", desc := "(III)I" } : MethodName) prog_9_method_46_code (8 : Nat) (Option.some FieldType.int)) ∈ UU := uu 932 (by decide +kernel) rfl
theorem u933 : (Cond.methodLink "SmokeTalkModel" (171 : Nat) ({ cls := "SmokeTalkModel", name := "saidBy", desc := "(III)I" } : MethodName)) ∈ UU := uu 933 (by decide +kernel) rfl
theorem u935 : (Cond.instanceMethod ({ cls := "SmokeTalkModel", name := "saidBy", desc := "(III)I" } : MethodName)) ∈ UU := uu 935 (by decide +kernel) rfl
theorem u936 : (Cond.code ({ cls := "SmokeTalkModel", name := "saidBy", desc := "(III)I" } : MethodName) prog_9_method_45_code (7 : Nat) (Option.some FieldType.int)) ∈ UU := uu 936 (by decide +kernel) rfl
theorem u937 : (Cond.methodLink "SmokeTalkLaw" (102 : Nat) ({ cls := "SmokeTalkModel", name := "feast", desc := "(II)I" } : MethodName)) ∈ UU := uu 937 (by decide +kernel) rfl
theorem u938 : (Cond.instanceMethod ({ cls := "SmokeTalkModel", name := "feast", desc := "(II)I" } : MethodName)) ∈ UU := uu 938 (by decide +kernel) rfl
theorem u939 : (Cond.selects "SmokeTalkModel" ({ cls := "SmokeTalkModel", name := "feast", desc := "(II)I" } : MethodName) ({ cls := "SmokeTalkModel", name := "feast", desc := "(II)I" } : MethodName)) ∈ UU := uu 939 (by decide +kernel) rfl
theorem u940 : (Cond.code ({ cls := "SmokeTalkModel", name := "feast", desc := "(II)I" } : MethodName) prog_9_method_47_code (7 : Nat) (Option.some FieldType.int)) ∈ UU := uu 940 (by decide +kernel) rfl
theorem u941 : (Cond.methodLink "SmokeTalkLaw" (106 : Nat) ({ cls := "SmokeTalkModel", name := "silent", desc := "(I)I" } : MethodName)) ∈ UU := uu 941 (by decide +kernel) rfl
theorem u942 : (Cond.instanceMethod ({ cls := "SmokeTalkModel", name := "silent", desc := "(I)I" } : MethodName)) ∈ UU := uu 942 (by decide +kernel) rfl
theorem u943 : (Cond.selects "SmokeTalkModel" ({ cls := "SmokeTalkModel", name := "silent", desc := "(I)I" } : MethodName) ({ cls := "SmokeTalkModel", name := "silent", desc := "(I)I" } : MethodName)) ∈ UU := uu 943 (by decide +kernel) rfl
theorem u944 : (Cond.code ({ cls := "SmokeTalkModel", name := "silent", desc := "(I)I" } : MethodName) prog_9_method_48_code (4 : Nat) (Option.some FieldType.int)) ∈ UU := uu 944 (by decide +kernel) rfl
theorem u945 : (Cond.methodLink "SmokeTalkLaw" (110 : Nat) ({ cls := "SmokeTalkModel", name := "drawn", desc := "(I)I" } : MethodName)) ∈ UU := uu 945 (by decide +kernel) rfl
theorem u946 : (Cond.instanceMethod ({ cls := "SmokeTalkModel", name := "drawn", desc := "(I)I" } : MethodName)) ∈ UU := uu 946 (by decide +kernel) rfl
theorem u947 : (Cond.selects "SmokeTalkModel" ({ cls := "SmokeTalkModel", name := "drawn", desc := "(I)I" } : MethodName) ({ cls := "SmokeTalkModel", name := "drawn", desc := "(I)I" } : MethodName)) ∈ UU := uu 947 (by decide +kernel) rfl
theorem u948 : (Cond.code ({ cls := "SmokeTalkModel", name := "drawn", desc := "(I)I" } : MethodName) prog_9_method_49_code (4 : Nat) (Option.some FieldType.int)) ∈ UU := uu 948 (by decide +kernel) rfl
theorem u949 : (Cond.constant "SmokeTalkModel" (175 : Nat) (1103515245 : Int32)) ∈ UU := uu 949 (by decide +kernel) rfl
theorem u950 : (Cond.methodLink "SmokeTalkLaw" (114 : Nat) ({ cls := "SmokeTalkModel", name := "lot", desc := "(I)I" } : MethodName)) ∈ UU := uu 950 (by decide +kernel) rfl
theorem u951 : (Cond.instanceMethod ({ cls := "SmokeTalkModel", name := "lot", desc := "(I)I" } : MethodName)) ∈ UU := uu 951 (by decide +kernel) rfl
theorem u952 : (Cond.selects "SmokeTalkModel" ({ cls := "SmokeTalkModel", name := "lot", desc := "(I)I" } : MethodName) ({ cls := "SmokeTalkModel", name := "lot", desc := "(I)I" } : MethodName)) ∈ UU := uu 952 (by decide +kernel) rfl
theorem u953 : (Cond.code ({ cls := "SmokeTalkModel", name := "lot", desc := "(I)I" } : MethodName) prog_9_method_50_code (3 : Nat) (Option.some FieldType.int)) ∈ UU := uu 953 (by decide +kernel) rfl
theorem u954 : (Cond.methodLink "SmokeTalkLaw" (118 : Nat) ({ cls := "SmokeTalkModel", name := "mark", desc := "(II)I" } : MethodName)) ∈ UU := uu 954 (by decide +kernel) rfl
theorem u955 : (Cond.instanceMethod ({ cls := "SmokeTalkModel", name := "mark", desc := "(II)I" } : MethodName)) ∈ UU := uu 955 (by decide +kernel) rfl
theorem u956 : (Cond.selects "SmokeTalkModel" ({ cls := "SmokeTalkModel", name := "mark", desc := "(II)I" } : MethodName) ({ cls := "SmokeTalkModel", name := "mark", desc := "(II)I" } : MethodName)) ∈ UU := uu 956 (by decide +kernel) rfl
theorem u957 : (Cond.code ({ cls := "SmokeTalkModel", name := "mark", desc := "(II)I" } : MethodName) prog_9_method_51_code (4 : Nat) (Option.some FieldType.int)) ∈ UU := uu 957 (by decide +kernel) rfl
theorem u958 : (Cond.constant "SmokeTalkModel" (176 : Nat) (-1000000 : Int32)) ∈ UU := uu 958 (by decide +kernel) rfl
theorem u959 : (Cond.constantLong "SmokeTalkModel" (181 : Nat) (11 : Int64)) ∈ UU := uu 959 (by decide +kernel) rfl
theorem u960 : (Cond.constantLong "SmokeTalkModel" (183 : Nat) (101 : Int64)) ∈ UU := uu 960 (by decide +kernel) rfl
theorem u961 : (Cond.constantLong "SmokeTalkModel" (185 : Nat) (1011 : Int64)) ∈ UU := uu 961 (by decide +kernel) rfl
theorem u962 : (Cond.constantLong "SmokeTalkModel" (187 : Nat) (10101 : Int64)) ∈ UU := uu 962 (by decide +kernel) rfl
theorem u963 : (Cond.constantLong "SmokeTalkModel" (189 : Nat) (100001 : Int64)) ∈ UU := uu 963 (by decide +kernel) rfl
theorem u964 : (Cond.methodLink "SmokeTalkLaw" (122 : Nat) ({ cls := "SmokeTalkModel", name := "keep", desc := "(I)I" } : MethodName)) ∈ UU := uu 964 (by decide +kernel) rfl
theorem u965 : (Cond.instanceMethod ({ cls := "SmokeTalkModel", name := "keep", desc := "(I)I" } : MethodName)) ∈ UU := uu 965 (by decide +kernel) rfl
theorem u966 : (Cond.selects "SmokeTalkModel" ({ cls := "SmokeTalkModel", name := "keep", desc := "(I)I" } : MethodName) ({ cls := "SmokeTalkModel", name := "keep", desc := "(I)I" } : MethodName)) ∈ UU := uu 966 (by decide +kernel) rfl
theorem u967 : (Cond.code ({ cls := "SmokeTalkModel", name := "keep", desc := "(I)I" } : MethodName) prog_9_method_53_code (2 : Nat) (Option.some FieldType.int)) ∈ UU := uu 967 (by decide +kernel) rfl
theorem u968 : (Cond.methodLink "SmokeTalkModel" (191 : Nat) ({ cls := "SmokeTalkModel", name := "copy", desc := "(II)V" } : MethodName)) ∈ UU := uu 968 (by decide +kernel) rfl
theorem u970 : (Cond.instanceMethod ({ cls := "SmokeTalkModel", name := "copy", desc := "(II)V" } : MethodName)) ∈ UU := uu 970 (by decide +kernel) rfl
theorem u971 : (Cond.code ({ cls := "SmokeTalkModel", name := "copy", desc := "(II)V" } : MethodName) prog_9_method_52_code (4 : Nat) (Option.none : Option FieldType)) ∈ UU := uu 971 (by decide +kernel) rfl
theorem u972 : (Cond.methodLink "SmokeTalkLaw" (126 : Nat) ({ cls := "SmokeTalkModel", name := "back", desc := "(I)I" } : MethodName)) ∈ UU := uu 972 (by decide +kernel) rfl
theorem u973 : (Cond.instanceMethod ({ cls := "SmokeTalkModel", name := "back", desc := "(I)I" } : MethodName)) ∈ UU := uu 973 (by decide +kernel) rfl
theorem u974 : (Cond.selects "SmokeTalkModel" ({ cls := "SmokeTalkModel", name := "back", desc := "(I)I" } : MethodName) ({ cls := "SmokeTalkModel", name := "back", desc := "(I)I" } : MethodName)) ∈ UU := uu 974 (by decide +kernel) rfl
theorem u975 : (Cond.code ({ cls := "SmokeTalkModel", name := "back", desc := "(I)I" } : MethodName) prog_9_method_54_code (2 : Nat) (Option.some FieldType.int)) ∈ UU := uu 975 (by decide +kernel) rfl
theorem u976 : (Cond.methodLink "SmokeTalkLaw" (130 : Nat) ({ cls := "SmokeTalkModel", name := "count", desc := "(I)I" } : MethodName)) ∈ UU := uu 976 (by decide +kernel) rfl
theorem u977 : (Cond.instanceMethod ({ cls := "SmokeTalkModel", name := "count", desc := "(I)I" } : MethodName)) ∈ UU := uu 977 (by decide +kernel) rfl
theorem u978 : (Cond.selects "SmokeTalkModel" ({ cls := "SmokeTalkModel", name := "count", desc := "(I)I" } : MethodName) ({ cls := "SmokeTalkModel", name := "count", desc := "(I)I" } : MethodName)) ∈ UU := uu 978 (by decide +kernel) rfl
theorem u979 : (Cond.code ({ cls := "SmokeTalkModel", name := "count", desc := "(I)I" } : MethodName) prog_9_method_55_code (2 : Nat) (Option.some FieldType.int)) ∈ UU := uu 979 (by decide +kernel) rfl
theorem u980 : (Cond.methodLink "SmokeTalkLaw" (135 : Nat) ({ cls := "SmokeTalkModel", name := "trace", desc := "()J" } : MethodName)) ∈ UU := uu 980 (by decide +kernel) rfl
theorem u981 : (Cond.instanceMethod ({ cls := "SmokeTalkModel", name := "trace", desc := "()J" } : MethodName)) ∈ UU := uu 981 (by decide +kernel) rfl
theorem u982 : (Cond.selects "SmokeTalkModel" ({ cls := "SmokeTalkModel", name := "trace", desc := "()J" } : MethodName) ({ cls := "SmokeTalkModel", name := "trace", desc := "()J" } : MethodName)) ∈ UU := uu 982 (by decide +kernel) rfl
theorem u983 : (Cond.code ({ cls := "SmokeTalkModel", name := "trace", desc := "()J" } : MethodName) prog_9_method_56_code (1 : Nat) (Option.some FieldType.long)) ∈ UU := uu 983 (by decide +kernel) rfl
theorem u984 : (Cond.constantLong "SmokeTalkLaw" (13 : Nat) (4294967295 : Int64)) ∈ UU := uu 984 (by decide +kernel) rfl
theorem u985 : (Cond.fieldLink "java/lang/String" (9 : Nat) "java/lang/String" "value" "[B") ∈ UU := uu 985 (by decide +kernel) rfl
theorem u986 : (Cond.fieldLink "java/lang/String" (15 : Nat) "java/lang/String" "coder" "B") ∈ UU := uu 986 (by decide +kernel) rfl
theorem inX0 : ∀ w ∈ u_ws RX0 TX0 2, w ∈ UU := fun w h => by
  have h1 : u_ws RX0 TX0 2 = [224, 226].filterMap (fun i => lw_tbl[i]?) := by decide +kernel
  have h2 : (u_ws RX0 TX0 2).all goodWord = true := by decide +kernel
  have h3 := List.all_eq_true.mp h2 w h
  rw [h1] at h
  obtain ⟨i, -, hi⟩ := List.mem_filterMap.mp h
  exact uu i hi h3
theorem inX1 : ∀ w ∈ u_ws RX1 TX1 5, w ∈ UU := fun w h => by
  have h1 : u_ws RX1 TX1 5 = [116, 118, 120, 122, 124].filterMap (fun i => lw_tbl[i]?) := by decide +kernel
  have h2 : (u_ws RX1 TX1 5).all goodWord = true := by decide +kernel
  have h3 := List.all_eq_true.mp h2 w h
  rw [h1] at h
  obtain ⟨i, -, hi⟩ := List.mem_filterMap.mp h
  exact uu i hi h3
theorem inX2 : ∀ w ∈ u_ws RX2 TX2 6, w ∈ UU := fun w h => by
  have h1 : u_ws RX2 TX2 6 = [202, 204, 206, 208, 210, 212].filterMap (fun i => lw_tbl[i]?) := by decide +kernel
  have h2 : (u_ws RX2 TX2 6).all goodWord = true := by decide +kernel
  have h3 := List.all_eq_true.mp h2 w h
  rw [h1] at h
  obtain ⟨i, -, hi⟩ := List.mem_filterMap.mp h
  exact uu i hi h3
theorem inX3 : ∀ w ∈ u_ws RX3 TX3 8, w ∈ UU := fun w h => by
  have h1 : u_ws RX3 TX3 8 = [151, 153, 155, 157, 159, 161, 163, 165].filterMap (fun i => lw_tbl[i]?) := by decide +kernel
  have h2 : (u_ws RX3 TX3 8).all goodWord = true := by decide +kernel
  have h3 := List.all_eq_true.mp h2 w h
  rw [h1] at h
  obtain ⟨i, -, hi⟩ := List.mem_filterMap.mp h
  exact uu i hi h3
theorem inX4 : ∀ w ∈ u_ws RX4 TX4 4, w ∈ UU := fun w h => by
  have h1 : u_ws RX4 TX4 4 = [174, 176, 178, 180].filterMap (fun i => lw_tbl[i]?) := by decide +kernel
  have h2 : (u_ws RX4 TX4 4).all goodWord = true := by decide +kernel
  have h3 := List.all_eq_true.mp h2 w h
  rw [h1] at h
  obtain ⟨i, -, hi⟩ := List.mem_filterMap.mp h
  exact uu i hi h3
theorem inX5 : ∀ w ∈ u_ws RX5 TX5 6, w ∈ UU := fun w h => by
  have h1 : u_ws RX5 TX5 6 = [76, 78, 80, 82, 84, 86].filterMap (fun i => lw_tbl[i]?) := by decide +kernel
  have h2 : (u_ws RX5 TX5 6).all goodWord = true := by decide +kernel
  have h3 := List.all_eq_true.mp h2 w h
  rw [h1] at h
  obtain ⟨i, -, hi⟩ := List.mem_filterMap.mp h
  exact uu i hi h3
theorem inX6 : ∀ w ∈ u_ws RX6 TX6 10, w ∈ UU := fun w h => by
  have h1 : u_ws RX6 TX6 10 = [240, 242, 244, 246, 248, 250, 252, 254, 256, 258].filterMap (fun i => lw_tbl[i]?) := by decide +kernel
  have h2 : (u_ws RX6 TX6 10).all goodWord = true := by decide +kernel
  have h3 := List.all_eq_true.mp h2 w h
  rw [h1] at h
  obtain ⟨i, -, hi⟩ := List.mem_filterMap.mp h
  exact uu i hi h3
theorem inX7 : ∀ w ∈ u_ws RX7 TX7 24, w ∈ UU := fun w h => by
  have h1 : u_ws RX7 TX7 24 = [714, 716, 718, 720, 722, 724, 726, 728, 730, 732, 734, 736, 738, 740, 742, 744, 746, 748, 750, 752, 754, 756, 758, 760].filterMap (fun i => lw_tbl[i]?) := by decide +kernel
  have h2 : (u_ws RX7 TX7 24).all goodWord = true := by decide +kernel
  have h3 := List.all_eq_true.mp h2 w h
  rw [h1] at h
  obtain ⟨i, -, hi⟩ := List.mem_filterMap.mp h
  exact uu i hi h3
end
section
theorem dX0_init_0 : decode cX0_init 0 = .ok (.aload_n 0, 1) := by decide +kernel
theorem dX0_init_1 : decode cX0_init 1 = .ok (.invokespecial 3, 3) := by decide +kernel
theorem dX0_init_4 : decode cX0_init 4 = .ok (.aload_n 0, 1) := by decide +kernel
theorem dX0_init_5 : decode cX0_init 5 = .ok (.bipush 8, 2) := by decide +kernel
theorem dX0_init_7 : decode cX0_init 7 = .ok (.newarray .long, 2) := by decide +kernel
theorem dX0_init_9 : decode cX0_init 9 = .ok (.putfield 9, 3) := by decide +kernel
theorem dX0_init_12 : decode cX0_init 12 = .ok (.aload_n 0, 1) := by decide +kernel
theorem dX0_init_13 : decode cX0_init 13 = .ok (.bipush 8, 2) := by decide +kernel
theorem dX0_init_15 : decode cX0_init 15 = .ok (.newarray .long, 2) := by decide +kernel
theorem dX0_init_17 : decode cX0_init 17 = .ok (.putfield 15, 3) := by decide +kernel
theorem dX0_init_20 : decode cX0_init 20 = .ok (.return_, 1) := by decide +kernel
theorem dX0_begin_0 : decode cX0_begin 0 = .ok (.iconst 0, 1) := by decide +kernel
theorem dX0_begin_1 : decode cX0_begin 1 = .ok (.istore_n 2, 1) := by decide +kernel
theorem dX0_begin_2 : decode cX0_begin 2 = .ok (.iload_n 2, 1) := by decide +kernel
theorem dX0_begin_3 : decode cX0_begin 3 = .ok (.bipush 8, 2) := by decide +kernel
theorem dX0_begin_5 : decode cX0_begin 5 = .ok (.if_icmp .ge 25, 3) := by decide +kernel
theorem dX0_begin_8 : decode cX0_begin 8 = .ok (.aload_n 0, 1) := by decide +kernel
theorem dX0_begin_9 : decode cX0_begin 9 = .ok (.getfield 9, 3) := by decide +kernel
theorem dX0_begin_12 : decode cX0_begin 12 = .ok (.iload_n 2, 1) := by decide +kernel
theorem dX0_begin_13 : decode cX0_begin 13 = .ok (.iload_n 2, 1) := by decide +kernel
theorem dX0_begin_14 : decode cX0_begin 14 = .ok (.iload_n 1, 1) := by decide +kernel
theorem dX0_begin_15 : decode cX0_begin 15 = .ok (.if_icmp .ne 7, 3) := by decide +kernel
theorem dX0_begin_18 : decode cX0_begin 18 = .ok (.lconst 1, 1) := by decide +kernel
theorem dX0_begin_19 : decode cX0_begin 19 = .ok (.goto 4, 3) := by decide +kernel
theorem dX0_begin_22 : decode cX0_begin 22 = .ok (.lconst 0, 1) := by decide +kernel
theorem dX0_begin_23 : decode cX0_begin 23 = .ok (.lastore, 1) := by decide +kernel
theorem dX0_begin_24 : decode cX0_begin 24 = .ok (.iinc 2 1, 3) := by decide +kernel
theorem dX0_begin_27 : decode cX0_begin 27 = .ok (.goto (-25), 3) := by decide +kernel
theorem dX0_begin_30 : decode cX0_begin 30 = .ok (.return_, 1) := by decide +kernel
theorem dX0_read_0 : decode cX0_read 0 = .ok (.iconst 0, 1) := by decide +kernel
theorem dX0_read_1 : decode cX0_read 1 = .ok (.istore_n 3, 1) := by decide +kernel
theorem dX0_read_2 : decode cX0_read 2 = .ok (.iload_n 3, 1) := by decide +kernel
theorem dX0_read_3 : decode cX0_read 3 = .ok (.bipush 8, 2) := by decide +kernel
theorem dX0_read_5 : decode cX0_read 5 = .ok (.if_icmp .ge 16, 3) := by decide +kernel
theorem dX0_read_8 : decode cX0_read 8 = .ok (.aload_n 0, 1) := by decide +kernel
theorem dX0_read_9 : decode cX0_read 9 = .ok (.getfield 15, 3) := by decide +kernel
theorem dX0_read_12 : decode cX0_read 12 = .ok (.iload_n 3, 1) := by decide +kernel
theorem dX0_read_13 : decode cX0_read 13 = .ok (.lconst 0, 1) := by decide +kernel
theorem dX0_read_14 : decode cX0_read 14 = .ok (.lastore, 1) := by decide +kernel
theorem dX0_read_15 : decode cX0_read 15 = .ok (.iinc 3 1, 3) := by decide +kernel
theorem dX0_read_18 : decode cX0_read 18 = .ok (.goto (-16), 3) := by decide +kernel
theorem dX0_read_21 : decode cX0_read 21 = .ok (.iconst 0, 1) := by decide +kernel
theorem dX0_read_22 : decode cX0_read 22 = .ok (.istore_n 3, 1) := by decide +kernel
theorem dX0_read_23 : decode cX0_read 23 = .ok (.iload_n 3, 1) := by decide +kernel
theorem dX0_read_24 : decode cX0_read 24 = .ok (.bipush 8, 2) := by decide +kernel
theorem dX0_read_26 : decode cX0_read 26 = .ok (.if_icmp .ge 88, 3) := by decide +kernel
theorem dX0_read_29 : decode cX0_read 29 = .ok (.aload_n 1, 1) := by decide +kernel
theorem dX0_read_30 : decode cX0_read 30 = .ok (.iload_n 3, 1) := by decide +kernel
theorem dX0_read_31 : decode cX0_read 31 = .ok (.invokevirtual 18, 3) := by decide +kernel
theorem dX0_read_34 : decode cX0_read 34 = .ok (.istore 4, 2) := by decide +kernel
theorem dX0_read_36 : decode cX0_read 36 = .ok (.iload 4, 2) := by decide +kernel
theorem dX0_read_38 : decode cX0_read 38 = .ok (.invokestatic 24, 3) := by decide +kernel
theorem dX0_read_41 : decode cX0_read 41 = .ok (.ifCond .ne 6, 3) := by decide +kernel
theorem dX0_read_44 : decode cX0_read 44 = .ok (.goto 64, 3) := by decide +kernel
theorem dX0_read_47 : decode cX0_read 47 = .ok (.iconst 0, 1) := by decide +kernel
theorem dX0_read_48 : decode cX0_read 48 = .ok (.istore 5, 2) := by decide +kernel
theorem dX0_read_50 : decode cX0_read 50 = .ok (.iload 5, 2) := by decide +kernel
theorem dX0_read_52 : decode cX0_read 52 = .ok (.bipush 8, 2) := by decide +kernel
theorem dX0_read_54 : decode cX0_read 54 = .ok (.if_icmp .ge 54, 3) := by decide +kernel
theorem dX0_read_57 : decode cX0_read 57 = .ok (.aload_n 1, 1) := by decide +kernel
theorem dX0_read_58 : decode cX0_read 58 = .ok (.iload 5, 2) := by decide +kernel
theorem dX0_read_60 : decode cX0_read 60 = .ok (.invokevirtual 28, 3) := by decide +kernel
theorem dX0_read_63 : decode cX0_read 63 = .ok (.istore 6, 2) := by decide +kernel
theorem dX0_read_65 : decode cX0_read 65 = .ok (.iload 6, 2) := by decide +kernel
theorem dX0_read_67 : decode cX0_read 67 = .ok (.iconst (-1), 1) := by decide +kernel
theorem dX0_read_68 : decode cX0_read 68 = .ok (.if_icmp .eq 34, 3) := by decide +kernel
theorem dX0_read_71 : decode cX0_read 71 = .ok (.aload_n 0, 1) := by decide +kernel
theorem dX0_read_72 : decode cX0_read 72 = .ok (.getfield 15, 3) := by decide +kernel
theorem dX0_read_75 : decode cX0_read 75 = .ok (.iload 4, 2) := by decide +kernel
theorem dX0_read_77 : decode cX0_read 77 = .ok (.dup2, 1) := by decide +kernel
theorem dX0_read_78 : decode cX0_read 78 = .ok (.laload, 1) := by decide +kernel
theorem dX0_read_79 : decode cX0_read 79 = .ok (.aload_n 0, 1) := by decide +kernel
theorem dX0_read_80 : decode cX0_read 80 = .ok (.getfield 9, 3) := by decide +kernel
theorem dX0_read_83 : decode cX0_read 83 = .ok (.iload 5, 2) := by decide +kernel
theorem dX0_read_85 : decode cX0_read 85 = .ok (.laload, 1) := by decide +kernel
theorem dX0_read_86 : decode cX0_read 86 = .ok (.aload_n 2, 1) := by decide +kernel
theorem dX0_read_87 : decode cX0_read 87 = .ok (.aload_n 1, 1) := by decide +kernel
theorem dX0_read_88 : decode cX0_read 88 = .ok (.getfield 31, 3) := by decide +kernel
theorem dX0_read_91 : decode cX0_read 91 = .ok (.iload 6, 2) := by decide +kernel
theorem dX0_read_93 : decode cX0_read 93 = .ok (.iaload, 1) := by decide +kernel
theorem dX0_read_94 : decode cX0_read 94 = .ok (.iload_n 3, 1) := by decide +kernel
theorem dX0_read_95 : decode cX0_read 95 = .ok (.invokevirtual 35, 3) := by decide +kernel
theorem dX0_read_98 : decode cX0_read 98 = .ok (.i2l, 1) := by decide +kernel
theorem dX0_read_99 : decode cX0_read 99 = .ok (.lmul, 1) := by decide +kernel
theorem dX0_read_100 : decode cX0_read 100 = .ok (.ladd, 1) := by decide +kernel
theorem dX0_read_101 : decode cX0_read 101 = .ok (.lastore, 1) := by decide +kernel
theorem dX0_read_102 : decode cX0_read 102 = .ok (.iinc 5 1, 3) := by decide +kernel
theorem dX0_read_105 : decode cX0_read 105 = .ok (.goto (-55), 3) := by decide +kernel
theorem dX0_read_108 : decode cX0_read 108 = .ok (.iinc 3 1, 3) := by decide +kernel
theorem dX0_read_111 : decode cX0_read 111 = .ok (.goto (-88), 3) := by decide +kernel
theorem dX0_read_114 : decode cX0_read 114 = .ok (.iconst 0, 1) := by decide +kernel
theorem dX0_read_115 : decode cX0_read 115 = .ok (.istore_n 3, 1) := by decide +kernel
theorem dX0_read_116 : decode cX0_read 116 = .ok (.iload_n 3, 1) := by decide +kernel
theorem dX0_read_117 : decode cX0_read 117 = .ok (.bipush 8, 2) := by decide +kernel
theorem dX0_read_119 : decode cX0_read 119 = .ok (.if_icmp .ge 21, 3) := by decide +kernel
theorem dX0_read_122 : decode cX0_read 122 = .ok (.aload_n 0, 1) := by decide +kernel
theorem dX0_read_123 : decode cX0_read 123 = .ok (.getfield 9, 3) := by decide +kernel
theorem dX0_read_126 : decode cX0_read 126 = .ok (.iload_n 3, 1) := by decide +kernel
theorem dX0_read_127 : decode cX0_read 127 = .ok (.aload_n 0, 1) := by decide +kernel
theorem dX0_read_128 : decode cX0_read 128 = .ok (.getfield 15, 3) := by decide +kernel
theorem dX0_read_131 : decode cX0_read 131 = .ok (.iload_n 3, 1) := by decide +kernel
theorem dX0_read_132 : decode cX0_read 132 = .ok (.laload, 1) := by decide +kernel
theorem dX0_read_133 : decode cX0_read 133 = .ok (.lastore, 1) := by decide +kernel
theorem dX0_read_134 : decode cX0_read 134 = .ok (.iinc 3 1, 3) := by decide +kernel
theorem dX0_read_137 : decode cX0_read 137 = .ok (.goto (-21), 3) := by decide +kernel
theorem dX0_read_140 : decode cX0_read 140 = .ok (.return_, 1) := by decide +kernel
theorem dX1_init_0 : decode cX1_init 0 = .ok (.aload_n 0, 1) := by decide +kernel
theorem dX1_init_1 : decode cX1_init 1 = .ok (.invokespecial 3, 3) := by decide +kernel
theorem dX1_init_4 : decode cX1_init 4 = .ok (.aload_n 0, 1) := by decide +kernel
theorem dX1_init_5 : decode cX1_init 5 = .ok (.bipush 40, 2) := by decide +kernel
theorem dX1_init_7 : decode cX1_init 7 = .ok (.newarray .int, 2) := by decide +kernel
theorem dX1_init_9 : decode cX1_init 9 = .ok (.putfield 9, 3) := by decide +kernel
theorem dX1_init_12 : decode cX1_init 12 = .ok (.aload_n 0, 1) := by decide +kernel
theorem dX1_init_13 : decode cX1_init 13 = .ok (.bipush 8, 2) := by decide +kernel
theorem dX1_init_15 : decode cX1_init 15 = .ok (.newarray .int, 2) := by decide +kernel
theorem dX1_init_17 : decode cX1_init 17 = .ok (.putfield 15, 3) := by decide +kernel
theorem dX1_init_20 : decode cX1_init 20 = .ok (.aload_n 0, 1) := by decide +kernel
theorem dX1_init_21 : decode cX1_init 21 = .ok (.bipush 8, 2) := by decide +kernel
theorem dX1_init_23 : decode cX1_init 23 = .ok (.newarray .int, 2) := by decide +kernel
theorem dX1_init_25 : decode cX1_init 25 = .ok (.putfield 18, 3) := by decide +kernel
theorem dX1_init_28 : decode cX1_init 28 = .ok (.aload_n 0, 1) := by decide +kernel
theorem dX1_init_29 : decode cX1_init 29 = .ok (.bipush 8, 2) := by decide +kernel
theorem dX1_init_31 : decode cX1_init 31 = .ok (.newarray .int, 2) := by decide +kernel
theorem dX1_init_33 : decode cX1_init 33 = .ok (.putfield 21, 3) := by decide +kernel
theorem dX1_init_36 : decode cX1_init 36 = .ok (.aload_n 0, 1) := by decide +kernel
theorem dX1_init_37 : decode cX1_init 37 = .ok (.iconst 0, 1) := by decide +kernel
theorem dX1_init_38 : decode cX1_init 38 = .ok (.putfield 24, 3) := by decide +kernel
theorem dX1_init_41 : decode cX1_init 41 = .ok (.return_, 1) := by decide +kernel
theorem dX1_become_0 : decode cX1_become 0 = .ok (.aload_n 0, 1) := by decide +kernel
theorem dX1_become_1 : decode cX1_become 1 = .ok (.aload_n 1, 1) := by decide +kernel
theorem dX1_become_2 : decode cX1_become 2 = .ok (.getfield 24, 3) := by decide +kernel
theorem dX1_become_5 : decode cX1_become 5 = .ok (.putfield 24, 3) := by decide +kernel
theorem dX1_become_8 : decode cX1_become 8 = .ok (.iconst 0, 1) := by decide +kernel
theorem dX1_become_9 : decode cX1_become 9 = .ok (.istore_n 2, 1) := by decide +kernel
theorem dX1_become_10 : decode cX1_become 10 = .ok (.iload_n 2, 1) := by decide +kernel
theorem dX1_become_11 : decode cX1_become 11 = .ok (.bipush 40, 2) := by decide +kernel
theorem dX1_become_13 : decode cX1_become 13 = .ok (.if_icmp .ge 21, 3) := by decide +kernel
theorem dX1_become_16 : decode cX1_become 16 = .ok (.aload_n 0, 1) := by decide +kernel
theorem dX1_become_17 : decode cX1_become 17 = .ok (.getfield 9, 3) := by decide +kernel
theorem dX1_become_20 : decode cX1_become 20 = .ok (.iload_n 2, 1) := by decide +kernel
theorem dX1_become_21 : decode cX1_become 21 = .ok (.aload_n 1, 1) := by decide +kernel
theorem dX1_become_22 : decode cX1_become 22 = .ok (.getfield 9, 3) := by decide +kernel
theorem dX1_become_25 : decode cX1_become 25 = .ok (.iload_n 2, 1) := by decide +kernel
theorem dX1_become_26 : decode cX1_become 26 = .ok (.iaload, 1) := by decide +kernel
theorem dX1_become_27 : decode cX1_become 27 = .ok (.iastore, 1) := by decide +kernel
theorem dX1_become_28 : decode cX1_become 28 = .ok (.iinc 2 1, 3) := by decide +kernel
theorem dX1_become_31 : decode cX1_become 31 = .ok (.goto (-21), 3) := by decide +kernel
theorem dX1_become_34 : decode cX1_become 34 = .ok (.iconst 0, 1) := by decide +kernel
theorem dX1_become_35 : decode cX1_become 35 = .ok (.istore_n 2, 1) := by decide +kernel
theorem dX1_become_36 : decode cX1_become 36 = .ok (.iload_n 2, 1) := by decide +kernel
theorem dX1_become_37 : decode cX1_become 37 = .ok (.bipush 8, 2) := by decide +kernel
theorem dX1_become_39 : decode cX1_become 39 = .ok (.if_icmp .ge 45, 3) := by decide +kernel
theorem dX1_become_42 : decode cX1_become 42 = .ok (.aload_n 0, 1) := by decide +kernel
theorem dX1_become_43 : decode cX1_become 43 = .ok (.getfield 15, 3) := by decide +kernel
theorem dX1_become_46 : decode cX1_become 46 = .ok (.iload_n 2, 1) := by decide +kernel
theorem dX1_become_47 : decode cX1_become 47 = .ok (.aload_n 1, 1) := by decide +kernel
theorem dX1_become_48 : decode cX1_become 48 = .ok (.getfield 15, 3) := by decide +kernel
theorem dX1_become_51 : decode cX1_become 51 = .ok (.iload_n 2, 1) := by decide +kernel
theorem dX1_become_52 : decode cX1_become 52 = .ok (.iaload, 1) := by decide +kernel
theorem dX1_become_53 : decode cX1_become 53 = .ok (.iastore, 1) := by decide +kernel
theorem dX1_become_54 : decode cX1_become 54 = .ok (.aload_n 0, 1) := by decide +kernel
theorem dX1_become_55 : decode cX1_become 55 = .ok (.getfield 18, 3) := by decide +kernel
theorem dX1_become_58 : decode cX1_become 58 = .ok (.iload_n 2, 1) := by decide +kernel
theorem dX1_become_59 : decode cX1_become 59 = .ok (.aload_n 1, 1) := by decide +kernel
theorem dX1_become_60 : decode cX1_become 60 = .ok (.getfield 18, 3) := by decide +kernel
theorem dX1_become_63 : decode cX1_become 63 = .ok (.iload_n 2, 1) := by decide +kernel
theorem dX1_become_64 : decode cX1_become 64 = .ok (.iaload, 1) := by decide +kernel
theorem dX1_become_65 : decode cX1_become 65 = .ok (.iastore, 1) := by decide +kernel
theorem dX1_become_66 : decode cX1_become 66 = .ok (.aload_n 0, 1) := by decide +kernel
theorem dX1_become_67 : decode cX1_become 67 = .ok (.getfield 21, 3) := by decide +kernel
theorem dX1_become_70 : decode cX1_become 70 = .ok (.iload_n 2, 1) := by decide +kernel
theorem dX1_become_71 : decode cX1_become 71 = .ok (.aload_n 1, 1) := by decide +kernel
theorem dX1_become_72 : decode cX1_become 72 = .ok (.getfield 21, 3) := by decide +kernel
theorem dX1_become_75 : decode cX1_become 75 = .ok (.iload_n 2, 1) := by decide +kernel
theorem dX1_become_76 : decode cX1_become 76 = .ok (.iaload, 1) := by decide +kernel
theorem dX1_become_77 : decode cX1_become 77 = .ok (.iastore, 1) := by decide +kernel
theorem dX1_become_78 : decode cX1_become 78 = .ok (.iinc 2 1, 3) := by decide +kernel
theorem dX1_become_81 : decode cX1_become 81 = .ok (.goto (-45), 3) := by decide +kernel
theorem dX1_become_84 : decode cX1_become 84 = .ok (.return_, 1) := by decide +kernel
theorem dX1_list_0 : decode cX1_list 0 = .ok (.aload_n 0, 1) := by decide +kernel
theorem dX1_list_1 : decode cX1_list 1 = .ok (.getfield 24, 3) := by decide +kernel
theorem dX1_list_4 : decode cX1_list 4 = .ok (.bipush 8, 2) := by decide +kernel
theorem dX1_list_6 : decode cX1_list 6 = .ok (.if_icmp .ge 10, 3) := by decide +kernel
theorem dX1_list_9 : decode cX1_list 9 = .ok (.aload_n 1, 1) := by decide +kernel
theorem dX1_list_10 : decode cX1_list 10 = .ok (.arraylength, 1) := by decide +kernel
theorem dX1_list_11 : decode cX1_list 11 = .ok (.bipush 7, 2) := by decide +kernel
theorem dX1_list_13 : decode cX1_list 13 = .ok (.if_icmp .ge 4, 3) := by decide +kernel
theorem dX1_list_16 : decode cX1_list 16 = .ok (.return_, 1) := by decide +kernel
theorem dX1_list_17 : decode cX1_list 17 = .ok (.iconst 0, 1) := by decide +kernel
theorem dX1_list_18 : decode cX1_list 18 = .ok (.istore_n 2, 1) := by decide +kernel
theorem dX1_list_19 : decode cX1_list 19 = .ok (.iconst 0, 1) := by decide +kernel
theorem dX1_list_20 : decode cX1_list 20 = .ok (.istore_n 3, 1) := by decide +kernel
theorem dX1_list_21 : decode cX1_list 21 = .ok (.iload_n 3, 1) := by decide +kernel
theorem dX1_list_22 : decode cX1_list 22 = .ok (.iconst 5, 1) := by decide +kernel
theorem dX1_list_23 : decode cX1_list 23 = .ok (.if_icmp .ge 31, 3) := by decide +kernel
theorem dX1_list_26 : decode cX1_list 26 = .ok (.aload_n 0, 1) := by decide +kernel
theorem dX1_list_27 : decode cX1_list 27 = .ok (.getfield 9, 3) := by decide +kernel
theorem dX1_list_30 : decode cX1_list 30 = .ok (.aload_n 0, 1) := by decide +kernel
theorem dX1_list_31 : decode cX1_list 31 = .ok (.getfield 24, 3) := by decide +kernel
theorem dX1_list_34 : decode cX1_list 34 = .ok (.iconst 5, 1) := by decide +kernel
theorem dX1_list_35 : decode cX1_list 35 = .ok (.imul, 1) := by decide +kernel
theorem dX1_list_36 : decode cX1_list 36 = .ok (.iload_n 3, 1) := by decide +kernel
theorem dX1_list_37 : decode cX1_list 37 = .ok (.iadd, 1) := by decide +kernel
theorem dX1_list_38 : decode cX1_list 38 = .ok (.aload_n 1, 1) := by decide +kernel
theorem dX1_list_39 : decode cX1_list 39 = .ok (.iload_n 3, 1) := by decide +kernel
theorem dX1_list_40 : decode cX1_list 40 = .ok (.iaload, 1) := by decide +kernel
theorem dX1_list_41 : decode cX1_list 41 = .ok (.iastore, 1) := by decide +kernel
theorem dX1_list_42 : decode cX1_list 42 = .ok (.iload_n 2, 1) := by decide +kernel
theorem dX1_list_43 : decode cX1_list 43 = .ok (.aload_n 1, 1) := by decide +kernel
theorem dX1_list_44 : decode cX1_list 44 = .ok (.iload_n 3, 1) := by decide +kernel
theorem dX1_list_45 : decode cX1_list 45 = .ok (.iaload, 1) := by decide +kernel
theorem dX1_list_46 : decode cX1_list 46 = .ok (.iadd, 1) := by decide +kernel
theorem dX1_list_47 : decode cX1_list 47 = .ok (.istore_n 2, 1) := by decide +kernel
theorem dX1_list_48 : decode cX1_list 48 = .ok (.iinc 3 1, 3) := by decide +kernel
theorem dX1_list_51 : decode cX1_list 51 = .ok (.goto (-30), 3) := by decide +kernel
theorem dX1_list_54 : decode cX1_list 54 = .ok (.aload_n 0, 1) := by decide +kernel
theorem dX1_list_55 : decode cX1_list 55 = .ok (.getfield 15, 3) := by decide +kernel
theorem dX1_list_58 : decode cX1_list 58 = .ok (.aload_n 0, 1) := by decide +kernel
theorem dX1_list_59 : decode cX1_list 59 = .ok (.getfield 24, 3) := by decide +kernel
theorem dX1_list_62 : decode cX1_list 62 = .ok (.iload_n 2, 1) := by decide +kernel
theorem dX1_list_63 : decode cX1_list 63 = .ok (.iastore, 1) := by decide +kernel
theorem dX1_list_64 : decode cX1_list 64 = .ok (.aload_n 0, 1) := by decide +kernel
theorem dX1_list_65 : decode cX1_list 65 = .ok (.getfield 18, 3) := by decide +kernel
theorem dX1_list_68 : decode cX1_list 68 = .ok (.aload_n 0, 1) := by decide +kernel
theorem dX1_list_69 : decode cX1_list 69 = .ok (.getfield 24, 3) := by decide +kernel
theorem dX1_list_72 : decode cX1_list 72 = .ok (.aload_n 1, 1) := by decide +kernel
theorem dX1_list_73 : decode cX1_list 73 = .ok (.iconst 5, 1) := by decide +kernel
theorem dX1_list_74 : decode cX1_list 74 = .ok (.iaload, 1) := by decide +kernel
theorem dX1_list_75 : decode cX1_list 75 = .ok (.iastore, 1) := by decide +kernel
theorem dX1_list_76 : decode cX1_list 76 = .ok (.aload_n 0, 1) := by decide +kernel
theorem dX1_list_77 : decode cX1_list 77 = .ok (.getfield 21, 3) := by decide +kernel
theorem dX1_list_80 : decode cX1_list 80 = .ok (.aload_n 0, 1) := by decide +kernel
theorem dX1_list_81 : decode cX1_list 81 = .ok (.getfield 24, 3) := by decide +kernel
theorem dX1_list_84 : decode cX1_list 84 = .ok (.aload_n 1, 1) := by decide +kernel
theorem dX1_list_85 : decode cX1_list 85 = .ok (.bipush 6, 2) := by decide +kernel
theorem dX1_list_87 : decode cX1_list 87 = .ok (.iaload, 1) := by decide +kernel
theorem dX1_list_88 : decode cX1_list 88 = .ok (.iastore, 1) := by decide +kernel
theorem dX1_list_89 : decode cX1_list 89 = .ok (.aload_n 0, 1) := by decide +kernel
theorem dX1_list_90 : decode cX1_list 90 = .ok (.dup, 1) := by decide +kernel
theorem dX1_list_91 : decode cX1_list 91 = .ok (.getfield 24, 3) := by decide +kernel
theorem dX1_list_94 : decode cX1_list 94 = .ok (.iconst 1, 1) := by decide +kernel
theorem dX1_list_95 : decode cX1_list 95 = .ok (.iadd, 1) := by decide +kernel
theorem dX1_list_96 : decode cX1_list 96 = .ok (.putfield 24, 3) := by decide +kernel
theorem dX1_list_99 : decode cX1_list 99 = .ok (.return_, 1) := by decide +kernel
theorem dX1_lists_0 : decode cX1_lists 0 = .ok (.iload_n 1, 1) := by decide +kernel
theorem dX1_lists_1 : decode cX1_lists 1 = .ok (.ifCond .lt 15, 3) := by decide +kernel
theorem dX1_lists_4 : decode cX1_lists 4 = .ok (.iload_n 1, 1) := by decide +kernel
theorem dX1_lists_5 : decode cX1_lists 5 = .ok (.aload_n 0, 1) := by decide +kernel
theorem dX1_lists_6 : decode cX1_lists 6 = .ok (.getfield 24, 3) := by decide +kernel
theorem dX1_lists_9 : decode cX1_lists 9 = .ok (.if_icmp .ge 7, 3) := by decide +kernel
theorem dX1_lists_12 : decode cX1_lists 12 = .ok (.iconst 1, 1) := by decide +kernel
theorem dX1_lists_13 : decode cX1_lists 13 = .ok (.goto 4, 3) := by decide +kernel
theorem dX1_lists_16 : decode cX1_lists 16 = .ok (.iconst 0, 1) := by decide +kernel
theorem dX1_lists_17 : decode cX1_lists 17 = .ok (.ireturn, 1) := by decide +kernel
theorem dX1_need_0 : decode cX1_need 0 = .ok (.aload_n 0, 1) := by decide +kernel
theorem dX1_need_1 : decode cX1_need 1 = .ok (.getfield 9, 3) := by decide +kernel
theorem dX1_need_4 : decode cX1_need 4 = .ok (.iload_n 1, 1) := by decide +kernel
theorem dX1_need_5 : decode cX1_need 5 = .ok (.iconst 5, 1) := by decide +kernel
theorem dX1_need_6 : decode cX1_need 6 = .ok (.imul, 1) := by decide +kernel
theorem dX1_need_7 : decode cX1_need 7 = .ok (.iload_n 2, 1) := by decide +kernel
theorem dX1_need_8 : decode cX1_need 8 = .ok (.iadd, 1) := by decide +kernel
theorem dX1_need_9 : decode cX1_need 9 = .ok (.iaload, 1) := by decide +kernel
theorem dX1_need_10 : decode cX1_need 10 = .ok (.ireturn, 1) := by decide +kernel
theorem dX1_fits_0 : decode cX1_fits 0 = .ok (.iconst 0, 1) := by decide +kernel
theorem dX1_fits_1 : decode cX1_fits 1 = .ok (.istore_n 3, 1) := by decide +kernel
theorem dX1_fits_2 : decode cX1_fits 2 = .ok (.iload_n 3, 1) := by decide +kernel
theorem dX1_fits_3 : decode cX1_fits 3 = .ok (.iconst 5, 1) := by decide +kernel
theorem dX1_fits_4 : decode cX1_fits 4 = .ok (.if_icmp .ge 23, 3) := by decide +kernel
theorem dX1_fits_7 : decode cX1_fits 7 = .ok (.aload_n 0, 1) := by decide +kernel
theorem dX1_fits_8 : decode cX1_fits 8 = .ok (.iload_n 1, 1) := by decide +kernel
theorem dX1_fits_9 : decode cX1_fits 9 = .ok (.iload_n 3, 1) := by decide +kernel
theorem dX1_fits_10 : decode cX1_fits 10 = .ok (.invokevirtual 28, 3) := by decide +kernel
theorem dX1_fits_13 : decode cX1_fits 13 = .ok (.aload_n 2, 1) := by decide +kernel
theorem dX1_fits_14 : decode cX1_fits 14 = .ok (.iload_n 3, 1) := by decide +kernel
theorem dX1_fits_15 : decode cX1_fits 15 = .ok (.iaload, 1) := by decide +kernel
theorem dX1_fits_16 : decode cX1_fits 16 = .ok (.if_icmp .le 5, 3) := by decide +kernel
theorem dX1_fits_19 : decode cX1_fits 19 = .ok (.iconst 0, 1) := by decide +kernel
theorem dX1_fits_20 : decode cX1_fits 20 = .ok (.ireturn, 1) := by decide +kernel
theorem dX1_fits_21 : decode cX1_fits 21 = .ok (.iinc 3 1, 3) := by decide +kernel
theorem dX1_fits_24 : decode cX1_fits 24 = .ok (.goto (-22), 3) := by decide +kernel
theorem dX1_fits_27 : decode cX1_fits 27 = .ok (.iconst 1, 1) := by decide +kernel
theorem dX1_fits_28 : decode cX1_fits 28 = .ok (.ireturn, 1) := by decide +kernel
theorem dX1_take_0 : decode cX1_take 0 = .ok (.iconst 0, 1) := by decide +kernel
theorem dX1_take_1 : decode cX1_take 1 = .ok (.istore_n 3, 1) := by decide +kernel
theorem dX1_take_2 : decode cX1_take 2 = .ok (.iload_n 3, 1) := by decide +kernel
theorem dX1_take_3 : decode cX1_take 3 = .ok (.iconst 5, 1) := by decide +kernel
theorem dX1_take_4 : decode cX1_take 4 = .ok (.if_icmp .ge 21, 3) := by decide +kernel
theorem dX1_take_7 : decode cX1_take 7 = .ok (.aload_n 2, 1) := by decide +kernel
theorem dX1_take_8 : decode cX1_take 8 = .ok (.iload_n 3, 1) := by decide +kernel
theorem dX1_take_9 : decode cX1_take 9 = .ok (.dup2, 1) := by decide +kernel
theorem dX1_take_10 : decode cX1_take 10 = .ok (.iaload, 1) := by decide +kernel
theorem dX1_take_11 : decode cX1_take 11 = .ok (.aload_n 0, 1) := by decide +kernel
theorem dX1_take_12 : decode cX1_take 12 = .ok (.iload_n 1, 1) := by decide +kernel
theorem dX1_take_13 : decode cX1_take 13 = .ok (.iload_n 3, 1) := by decide +kernel
theorem dX1_take_14 : decode cX1_take 14 = .ok (.invokevirtual 28, 3) := by decide +kernel
theorem dX1_take_17 : decode cX1_take 17 = .ok (.isub, 1) := by decide +kernel
theorem dX1_take_18 : decode cX1_take 18 = .ok (.iastore, 1) := by decide +kernel
theorem dX1_take_19 : decode cX1_take 19 = .ok (.iinc 3 1, 3) := by decide +kernel
theorem dX1_take_22 : decode cX1_take 22 = .ok (.goto (-20), 3) := by decide +kernel
theorem dX1_take_25 : decode cX1_take 25 = .ok (.return_, 1) := by decide +kernel
theorem dX1_putBack_0 : decode cX1_putBack 0 = .ok (.iconst 0, 1) := by decide +kernel
theorem dX1_putBack_1 : decode cX1_putBack 1 = .ok (.istore_n 3, 1) := by decide +kernel
theorem dX1_putBack_2 : decode cX1_putBack 2 = .ok (.iload_n 3, 1) := by decide +kernel
theorem dX1_putBack_3 : decode cX1_putBack 3 = .ok (.iconst 5, 1) := by decide +kernel
theorem dX1_putBack_4 : decode cX1_putBack 4 = .ok (.if_icmp .ge 21, 3) := by decide +kernel
theorem dX1_putBack_7 : decode cX1_putBack 7 = .ok (.aload_n 2, 1) := by decide +kernel
theorem dX1_putBack_8 : decode cX1_putBack 8 = .ok (.iload_n 3, 1) := by decide +kernel
theorem dX1_putBack_9 : decode cX1_putBack 9 = .ok (.dup2, 1) := by decide +kernel
theorem dX1_putBack_10 : decode cX1_putBack 10 = .ok (.iaload, 1) := by decide +kernel
theorem dX1_putBack_11 : decode cX1_putBack 11 = .ok (.aload_n 0, 1) := by decide +kernel
theorem dX1_putBack_12 : decode cX1_putBack 12 = .ok (.iload_n 1, 1) := by decide +kernel
theorem dX1_putBack_13 : decode cX1_putBack 13 = .ok (.iload_n 3, 1) := by decide +kernel
theorem dX1_putBack_14 : decode cX1_putBack 14 = .ok (.invokevirtual 28, 3) := by decide +kernel
theorem dX1_putBack_17 : decode cX1_putBack 17 = .ok (.iadd, 1) := by decide +kernel
theorem dX1_putBack_18 : decode cX1_putBack 18 = .ok (.iastore, 1) := by decide +kernel
theorem dX1_putBack_19 : decode cX1_putBack 19 = .ok (.iinc 3 1, 3) := by decide +kernel
theorem dX1_putBack_22 : decode cX1_putBack 22 = .ok (.goto (-20), 3) := by decide +kernel
theorem dX1_putBack_25 : decode cX1_putBack 25 = .ok (.return_, 1) := by decide +kernel
theorem dX1_leanest_0 : decode cX1_leanest 0 = .ok (.iconst (-1), 1) := by decide +kernel
theorem dX1_leanest_1 : decode cX1_leanest 1 = .ok (.istore_n 2, 1) := by decide +kernel
theorem dX1_leanest_2 : decode cX1_leanest 2 = .ok (.iconst 0, 1) := by decide +kernel
theorem dX1_leanest_3 : decode cX1_leanest 3 = .ok (.istore_n 3, 1) := by decide +kernel
theorem dX1_leanest_4 : decode cX1_leanest 4 = .ok (.iload_n 3, 1) := by decide +kernel
theorem dX1_leanest_5 : decode cX1_leanest 5 = .ok (.aload_n 0, 1) := by decide +kernel
theorem dX1_leanest_6 : decode cX1_leanest 6 = .ok (.getfield 24, 3) := by decide +kernel
theorem dX1_leanest_9 : decode cX1_leanest 9 = .ok (.if_icmp .ge 40, 3) := by decide +kernel
theorem dX1_leanest_12 : decode cX1_leanest 12 = .ok (.aload_n 0, 1) := by decide +kernel
theorem dX1_leanest_13 : decode cX1_leanest 13 = .ok (.iload_n 3, 1) := by decide +kernel
theorem dX1_leanest_14 : decode cX1_leanest 14 = .ok (.aload_n 1, 1) := by decide +kernel
theorem dX1_leanest_15 : decode cX1_leanest 15 = .ok (.invokevirtual 32, 3) := by decide +kernel
theorem dX1_leanest_18 : decode cX1_leanest 18 = .ok (.ifCond .eq 25, 3) := by decide +kernel
theorem dX1_leanest_21 : decode cX1_leanest 21 = .ok (.iload_n 2, 1) := by decide +kernel
theorem dX1_leanest_22 : decode cX1_leanest 22 = .ok (.iconst (-1), 1) := by decide +kernel
theorem dX1_leanest_23 : decode cX1_leanest 23 = .ok (.if_icmp .eq 18, 3) := by decide +kernel
theorem dX1_leanest_26 : decode cX1_leanest 26 = .ok (.aload_n 0, 1) := by decide +kernel
theorem dX1_leanest_27 : decode cX1_leanest 27 = .ok (.getfield 15, 3) := by decide +kernel
theorem dX1_leanest_30 : decode cX1_leanest 30 = .ok (.iload_n 3, 1) := by decide +kernel
theorem dX1_leanest_31 : decode cX1_leanest 31 = .ok (.iaload, 1) := by decide +kernel
theorem dX1_leanest_32 : decode cX1_leanest 32 = .ok (.aload_n 0, 1) := by decide +kernel
theorem dX1_leanest_33 : decode cX1_leanest 33 = .ok (.getfield 15, 3) := by decide +kernel
theorem dX1_leanest_36 : decode cX1_leanest 36 = .ok (.iload_n 2, 1) := by decide +kernel
theorem dX1_leanest_37 : decode cX1_leanest 37 = .ok (.iaload, 1) := by decide +kernel
theorem dX1_leanest_38 : decode cX1_leanest 38 = .ok (.if_icmp .ge 5, 3) := by decide +kernel
theorem dX1_leanest_41 : decode cX1_leanest 41 = .ok (.iload_n 3, 1) := by decide +kernel
theorem dX1_leanest_42 : decode cX1_leanest 42 = .ok (.istore_n 2, 1) := by decide +kernel
theorem dX1_leanest_43 : decode cX1_leanest 43 = .ok (.iinc 3 1, 3) := by decide +kernel
theorem dX1_leanest_46 : decode cX1_leanest 46 = .ok (.goto (-42), 3) := by decide +kernel
theorem dX1_leanest_49 : decode cX1_leanest 49 = .ok (.iload_n 2, 1) := by decide +kernel
theorem dX1_leanest_50 : decode cX1_leanest 50 = .ok (.ireturn, 1) := by decide +kernel
theorem dX1_leastSaying_0 : decode cX1_leastSaying 0 = .ok (.iconst 0, 1) := by decide +kernel
theorem dX1_leastSaying_1 : decode cX1_leastSaying 1 = .ok (.istore_n 2, 1) := by decide +kernel
theorem dX1_leastSaying_2 : decode cX1_leastSaying 2 = .ok (.iload_n 2, 1) := by decide +kernel
theorem dX1_leastSaying_3 : decode cX1_leastSaying 3 = .ok (.aload_n 0, 1) := by decide +kernel
theorem dX1_leastSaying_4 : decode cX1_leastSaying 4 = .ok (.getfield 24, 3) := by decide +kernel
theorem dX1_leastSaying_7 : decode cX1_leastSaying 7 = .ok (.if_icmp .ge 21, 3) := by decide +kernel
theorem dX1_leastSaying_10 : decode cX1_leastSaying 10 = .ok (.aload_n 0, 1) := by decide +kernel
theorem dX1_leastSaying_11 : decode cX1_leastSaying 11 = .ok (.getfield 21, 3) := by decide +kernel
theorem dX1_leastSaying_14 : decode cX1_leastSaying 14 = .ok (.iload_n 2, 1) := by decide +kernel
theorem dX1_leastSaying_15 : decode cX1_leastSaying 15 = .ok (.iaload, 1) := by decide +kernel
theorem dX1_leastSaying_16 : decode cX1_leastSaying 16 = .ok (.iload_n 1, 1) := by decide +kernel
theorem dX1_leastSaying_17 : decode cX1_leastSaying 17 = .ok (.if_icmp .ne 5, 3) := by decide +kernel
theorem dX1_leastSaying_20 : decode cX1_leastSaying 20 = .ok (.iload_n 2, 1) := by decide +kernel
theorem dX1_leastSaying_21 : decode cX1_leastSaying 21 = .ok (.ireturn, 1) := by decide +kernel
theorem dX1_leastSaying_22 : decode cX1_leastSaying 22 = .ok (.iinc 2 1, 3) := by decide +kernel
theorem dX1_leastSaying_25 : decode cX1_leastSaying 25 = .ok (.goto (-23), 3) := by decide +kernel
theorem dX1_leastSaying_28 : decode cX1_leastSaying 28 = .ok (.iconst (-1), 1) := by decide +kernel
theorem dX1_leastSaying_29 : decode cX1_leastSaying 29 = .ok (.ireturn, 1) := by decide +kernel
theorem dX1_meaning_0 : decode cX1_meaning 0 = .ok (.iconst 0, 1) := by decide +kernel
theorem dX1_meaning_1 : decode cX1_meaning 1 = .ok (.istore_n 2, 1) := by decide +kernel
theorem dX1_meaning_2 : decode cX1_meaning 2 = .ok (.iload_n 2, 1) := by decide +kernel
theorem dX1_meaning_3 : decode cX1_meaning 3 = .ok (.aload_n 0, 1) := by decide +kernel
theorem dX1_meaning_4 : decode cX1_meaning 4 = .ok (.getfield 24, 3) := by decide +kernel
theorem dX1_meaning_7 : decode cX1_meaning 7 = .ok (.if_icmp .ge 26, 3) := by decide +kernel
theorem dX1_meaning_10 : decode cX1_meaning 10 = .ok (.aload_n 0, 1) := by decide +kernel
theorem dX1_meaning_11 : decode cX1_meaning 11 = .ok (.getfield 18, 3) := by decide +kernel
theorem dX1_meaning_14 : decode cX1_meaning 14 = .ok (.iload_n 2, 1) := by decide +kernel
theorem dX1_meaning_15 : decode cX1_meaning 15 = .ok (.iaload, 1) := by decide +kernel
theorem dX1_meaning_16 : decode cX1_meaning 16 = .ok (.iload_n 1, 1) := by decide +kernel
theorem dX1_meaning_17 : decode cX1_meaning 17 = .ok (.if_icmp .ne 10, 3) := by decide +kernel
theorem dX1_meaning_20 : decode cX1_meaning 20 = .ok (.aload_n 0, 1) := by decide +kernel
theorem dX1_meaning_21 : decode cX1_meaning 21 = .ok (.getfield 21, 3) := by decide +kernel
theorem dX1_meaning_24 : decode cX1_meaning 24 = .ok (.iload_n 2, 1) := by decide +kernel
theorem dX1_meaning_25 : decode cX1_meaning 25 = .ok (.iaload, 1) := by decide +kernel
theorem dX1_meaning_26 : decode cX1_meaning 26 = .ok (.ireturn, 1) := by decide +kernel
theorem dX1_meaning_27 : decode cX1_meaning 27 = .ok (.iinc 2 1, 3) := by decide +kernel
theorem dX1_meaning_30 : decode cX1_meaning 30 = .ok (.goto (-28), 3) := by decide +kernel
theorem dX1_meaning_33 : decode cX1_meaning 33 = .ok (.bipush (-9), 2) := by decide +kernel
theorem dX1_meaning_35 : decode cX1_meaning 35 = .ok (.ireturn, 1) := by decide +kernel
theorem dX1_smokeOfAll_0 : decode cX1_smokeOfAll 0 = .ok (.iconst 0, 1) := by decide +kernel
theorem dX1_smokeOfAll_1 : decode cX1_smokeOfAll 1 = .ok (.istore_n 2, 1) := by decide +kernel
theorem dX1_smokeOfAll_2 : decode cX1_smokeOfAll 2 = .ok (.iconst 0, 1) := by decide +kernel
theorem dX1_smokeOfAll_3 : decode cX1_smokeOfAll 3 = .ok (.istore_n 3, 1) := by decide +kernel
theorem dX1_smokeOfAll_4 : decode cX1_smokeOfAll 4 = .ok (.iload_n 3, 1) := by decide +kernel
theorem dX1_smokeOfAll_5 : decode cX1_smokeOfAll 5 = .ok (.aload_n 0, 1) := by decide +kernel
theorem dX1_smokeOfAll_6 : decode cX1_smokeOfAll 6 = .ok (.getfield 24, 3) := by decide +kernel
theorem dX1_smokeOfAll_9 : decode cX1_smokeOfAll 9 = .ok (.if_icmp .ge 26, 3) := by decide +kernel
theorem dX1_smokeOfAll_12 : decode cX1_smokeOfAll 12 = .ok (.iload_n 1, 1) := by decide +kernel
theorem dX1_smokeOfAll_13 : decode cX1_smokeOfAll 13 = .ok (.iload_n 3, 1) := by decide +kernel
theorem dX1_smokeOfAll_14 : decode cX1_smokeOfAll 14 = .ok (.invokestatic 36, 3) := by decide +kernel
theorem dX1_smokeOfAll_17 : decode cX1_smokeOfAll 17 = .ok (.ifCond .eq 12, 3) := by decide +kernel
theorem dX1_smokeOfAll_20 : decode cX1_smokeOfAll 20 = .ok (.iload_n 2, 1) := by decide +kernel
theorem dX1_smokeOfAll_21 : decode cX1_smokeOfAll 21 = .ok (.aload_n 0, 1) := by decide +kernel
theorem dX1_smokeOfAll_22 : decode cX1_smokeOfAll 22 = .ok (.getfield 18, 3) := by decide +kernel
theorem dX1_smokeOfAll_25 : decode cX1_smokeOfAll 25 = .ok (.iload_n 3, 1) := by decide +kernel
theorem dX1_smokeOfAll_26 : decode cX1_smokeOfAll 26 = .ok (.iaload, 1) := by decide +kernel
theorem dX1_smokeOfAll_27 : decode cX1_smokeOfAll 27 = .ok (.ior, 1) := by decide +kernel
theorem dX1_smokeOfAll_28 : decode cX1_smokeOfAll 28 = .ok (.istore_n 2, 1) := by decide +kernel
theorem dX1_smokeOfAll_29 : decode cX1_smokeOfAll 29 = .ok (.iinc 3 1, 3) := by decide +kernel
theorem dX1_smokeOfAll_32 : decode cX1_smokeOfAll 32 = .ok (.goto (-28), 3) := by decide +kernel
theorem dX1_smokeOfAll_35 : decode cX1_smokeOfAll 35 = .ok (.iload_n 2, 1) := by decide +kernel
theorem dX1_smokeOfAll_36 : decode cX1_smokeOfAll 36 = .ok (.ireturn, 1) := by decide +kernel
theorem dX1_anySays_0 : decode cX1_anySays 0 = .ok (.iconst 0, 1) := by decide +kernel
theorem dX1_anySays_1 : decode cX1_anySays 1 = .ok (.istore_n 3, 1) := by decide +kernel
theorem dX1_anySays_2 : decode cX1_anySays 2 = .ok (.iload_n 3, 1) := by decide +kernel
theorem dX1_anySays_3 : decode cX1_anySays 3 = .ok (.aload_n 0, 1) := by decide +kernel
theorem dX1_anySays_4 : decode cX1_anySays 4 = .ok (.getfield 24, 3) := by decide +kernel
theorem dX1_anySays_7 : decode cX1_anySays 7 = .ok (.if_icmp .ge 29, 3) := by decide +kernel
theorem dX1_anySays_10 : decode cX1_anySays 10 = .ok (.iload_n 1, 1) := by decide +kernel
theorem dX1_anySays_11 : decode cX1_anySays 11 = .ok (.iload_n 3, 1) := by decide +kernel
theorem dX1_anySays_12 : decode cX1_anySays 12 = .ok (.invokestatic 36, 3) := by decide +kernel
theorem dX1_anySays_15 : decode cX1_anySays 15 = .ok (.ifCond .eq 15, 3) := by decide +kernel
theorem dX1_anySays_18 : decode cX1_anySays 18 = .ok (.aload_n 0, 1) := by decide +kernel
theorem dX1_anySays_19 : decode cX1_anySays 19 = .ok (.getfield 21, 3) := by decide +kernel
theorem dX1_anySays_22 : decode cX1_anySays 22 = .ok (.iload_n 3, 1) := by decide +kernel
theorem dX1_anySays_23 : decode cX1_anySays 23 = .ok (.iaload, 1) := by decide +kernel
theorem dX1_anySays_24 : decode cX1_anySays 24 = .ok (.iload_n 2, 1) := by decide +kernel
theorem dX1_anySays_25 : decode cX1_anySays 25 = .ok (.if_icmp .ne 5, 3) := by decide +kernel
theorem dX1_anySays_28 : decode cX1_anySays 28 = .ok (.iconst 1, 1) := by decide +kernel
theorem dX1_anySays_29 : decode cX1_anySays 29 = .ok (.ireturn, 1) := by decide +kernel
theorem dX1_anySays_30 : decode cX1_anySays 30 = .ok (.iinc 3 1, 3) := by decide +kernel
theorem dX1_anySays_33 : decode cX1_anySays 33 = .ok (.goto (-31), 3) := by decide +kernel
theorem dX1_anySays_36 : decode cX1_anySays 36 = .ok (.iconst 0, 1) := by decide +kernel
theorem dX1_anySays_37 : decode cX1_anySays 37 = .ok (.ireturn, 1) := by decide +kernel
theorem dX1_tellsApart_0 : decode cX1_tellsApart 0 = .ok (.iload_n 2, 1) := by decide +kernel
theorem dX1_tellsApart_1 : decode cX1_tellsApart 1 = .ok (.istore 4, 2) := by decide +kernel
theorem dX1_tellsApart_3 : decode cX1_tellsApart 3 = .ok (.iconst 0, 1) := by decide +kernel
theorem dX1_tellsApart_4 : decode cX1_tellsApart 4 = .ok (.istore 5, 2) := by decide +kernel
theorem dX1_tellsApart_6 : decode cX1_tellsApart 6 = .ok (.iload 5, 2) := by decide +kernel
theorem dX1_tellsApart_8 : decode cX1_tellsApart 8 = .ok (.aload_n 0, 1) := by decide +kernel
theorem dX1_tellsApart_9 : decode cX1_tellsApart 9 = .ok (.getfield 24, 3) := by decide +kernel
theorem dX1_tellsApart_12 : decode cX1_tellsApart 12 = .ok (.if_icmp .ge 65, 3) := by decide +kernel
theorem dX1_tellsApart_15 : decode cX1_tellsApart 15 = .ok (.iload_n 1, 1) := by decide +kernel
theorem dX1_tellsApart_16 : decode cX1_tellsApart 16 = .ok (.iload 5, 2) := by decide +kernel
theorem dX1_tellsApart_18 : decode cX1_tellsApart 18 = .ok (.invokestatic 36, 3) := by decide +kernel
theorem dX1_tellsApart_21 : decode cX1_tellsApart 21 = .ok (.ifCond .ne 6, 3) := by decide +kernel
theorem dX1_tellsApart_24 : decode cX1_tellsApart 24 = .ok (.goto 47, 3) := by decide +kernel
theorem dX1_tellsApart_27 : decode cX1_tellsApart 27 = .ok (.iload 4, 2) := by decide +kernel
theorem dX1_tellsApart_29 : decode cX1_tellsApart 29 = .ok (.aload_n 0, 1) := by decide +kernel
theorem dX1_tellsApart_30 : decode cX1_tellsApart 30 = .ok (.getfield 21, 3) := by decide +kernel
theorem dX1_tellsApart_33 : decode cX1_tellsApart 33 = .ok (.iload 5, 2) := by decide +kernel
end
section
theorem dX1_tellsApart_35 : decode cX1_tellsApart 35 = .ok (.iaload, 1) := by decide +kernel
theorem dX1_tellsApart_36 : decode cX1_tellsApart 36 = .ok (.invokestatic 36, 3) := by decide +kernel
theorem dX1_tellsApart_39 : decode cX1_tellsApart 39 = .ok (.ifCond .eq 14, 3) := by decide +kernel
theorem dX1_tellsApart_42 : decode cX1_tellsApart 42 = .ok (.aload_n 0, 1) := by decide +kernel
theorem dX1_tellsApart_43 : decode cX1_tellsApart 43 = .ok (.iload_n 1, 1) := by decide +kernel
theorem dX1_tellsApart_44 : decode cX1_tellsApart 44 = .ok (.iload 5, 2) := by decide +kernel
theorem dX1_tellsApart_46 : decode cX1_tellsApart 46 = .ok (.iload_n 3, 1) := by decide +kernel
theorem dX1_tellsApart_47 : decode cX1_tellsApart 47 = .ok (.invokevirtual 40, 3) := by decide +kernel
theorem dX1_tellsApart_50 : decode cX1_tellsApart 50 = .ok (.ifCond .ne 5, 3) := by decide +kernel
theorem dX1_tellsApart_53 : decode cX1_tellsApart 53 = .ok (.iconst 0, 1) := by decide +kernel
theorem dX1_tellsApart_54 : decode cX1_tellsApart 54 = .ok (.ireturn, 1) := by decide +kernel
theorem dX1_tellsApart_55 : decode cX1_tellsApart 55 = .ok (.iload 4, 2) := by decide +kernel
theorem dX1_tellsApart_57 : decode cX1_tellsApart 57 = .ok (.iconst 1, 1) := by decide +kernel
theorem dX1_tellsApart_58 : decode cX1_tellsApart 58 = .ok (.aload_n 0, 1) := by decide +kernel
theorem dX1_tellsApart_59 : decode cX1_tellsApart 59 = .ok (.getfield 21, 3) := by decide +kernel
theorem dX1_tellsApart_62 : decode cX1_tellsApart 62 = .ok (.iload 5, 2) := by decide +kernel
theorem dX1_tellsApart_64 : decode cX1_tellsApart 64 = .ok (.iaload, 1) := by decide +kernel
theorem dX1_tellsApart_65 : decode cX1_tellsApart 65 = .ok (.ishl, 1) := by decide +kernel
theorem dX1_tellsApart_66 : decode cX1_tellsApart 66 = .ok (.iconst (-1), 1) := by decide +kernel
theorem dX1_tellsApart_67 : decode cX1_tellsApart 67 = .ok (.ixor, 1) := by decide +kernel
theorem dX1_tellsApart_68 : decode cX1_tellsApart 68 = .ok (.iand, 1) := by decide +kernel
theorem dX1_tellsApart_69 : decode cX1_tellsApart 69 = .ok (.istore 4, 2) := by decide +kernel
theorem dX1_tellsApart_71 : decode cX1_tellsApart 71 = .ok (.iinc 5 1, 3) := by decide +kernel
theorem dX1_tellsApart_74 : decode cX1_tellsApart 74 = .ok (.goto (-68), 3) := by decide +kernel
theorem dX1_tellsApart_77 : decode cX1_tellsApart 77 = .ok (.iconst 1, 1) := by decide +kernel
theorem dX1_tellsApart_78 : decode cX1_tellsApart 78 = .ok (.ireturn, 1) := by decide +kernel
theorem dX1_standsOff_0 : decode cX1_standsOff 0 = .ok (.iconst 0, 1) := by decide +kernel
theorem dX1_standsOff_1 : decode cX1_standsOff 1 = .ok (.istore 4, 2) := by decide +kernel
theorem dX1_standsOff_3 : decode cX1_standsOff 3 = .ok (.iload 4, 2) := by decide +kernel
theorem dX1_standsOff_5 : decode cX1_standsOff 5 = .ok (.iload_n 2, 1) := by decide +kernel
theorem dX1_standsOff_6 : decode cX1_standsOff 6 = .ok (.if_icmp .ge 41, 3) := by decide +kernel
theorem dX1_standsOff_9 : decode cX1_standsOff 9 = .ok (.iload_n 1, 1) := by decide +kernel
theorem dX1_standsOff_10 : decode cX1_standsOff 10 = .ok (.iload 4, 2) := by decide +kernel
theorem dX1_standsOff_12 : decode cX1_standsOff 12 = .ok (.invokestatic 36, 3) := by decide +kernel
theorem dX1_standsOff_15 : decode cX1_standsOff 15 = .ok (.ifCond .eq 26, 3) := by decide +kernel
theorem dX1_standsOff_18 : decode cX1_standsOff 18 = .ok (.aload_n 0, 1) := by decide +kernel
theorem dX1_standsOff_19 : decode cX1_standsOff 19 = .ok (.getfield 18, 3) := by decide +kernel
theorem dX1_standsOff_22 : decode cX1_standsOff 22 = .ok (.iload 4, 2) := by decide +kernel
theorem dX1_standsOff_24 : decode cX1_standsOff 24 = .ok (.iaload, 1) := by decide +kernel
theorem dX1_standsOff_25 : decode cX1_standsOff 25 = .ok (.aload_n 0, 1) := by decide +kernel
theorem dX1_standsOff_26 : decode cX1_standsOff 26 = .ok (.getfield 18, 3) := by decide +kernel
theorem dX1_standsOff_29 : decode cX1_standsOff 29 = .ok (.iload_n 2, 1) := by decide +kernel
theorem dX1_standsOff_30 : decode cX1_standsOff 30 = .ok (.iaload, 1) := by decide +kernel
theorem dX1_standsOff_31 : decode cX1_standsOff 31 = .ok (.ixor, 1) := by decide +kernel
theorem dX1_standsOff_32 : decode cX1_standsOff 32 = .ok (.invokestatic 44, 3) := by decide +kernel
theorem dX1_standsOff_35 : decode cX1_standsOff 35 = .ok (.iload_n 3, 1) := by decide +kernel
theorem dX1_standsOff_36 : decode cX1_standsOff 36 = .ok (.if_icmp .ge 5, 3) := by decide +kernel
theorem dX1_standsOff_39 : decode cX1_standsOff 39 = .ok (.iconst 0, 1) := by decide +kernel
theorem dX1_standsOff_40 : decode cX1_standsOff 40 = .ok (.ireturn, 1) := by decide +kernel
theorem dX1_standsOff_41 : decode cX1_standsOff 41 = .ok (.iinc 4 1, 3) := by decide +kernel
theorem dX1_standsOff_44 : decode cX1_standsOff 44 = .ok (.goto (-41), 3) := by decide +kernel
theorem dX1_standsOff_47 : decode cX1_standsOff 47 = .ok (.iconst 1, 1) := by decide +kernel
theorem dX1_standsOff_48 : decode cX1_standsOff 48 = .ok (.ireturn, 1) := by decide +kernel
theorem dX1_holds_0 : decode cX1_holds 0 = .ok (.iload_n 0, 1) := by decide +kernel
theorem dX1_holds_1 : decode cX1_holds 1 = .ok (.iload_n 1, 1) := by decide +kernel
theorem dX1_holds_2 : decode cX1_holds 2 = .ok (.ishr, 1) := by decide +kernel
theorem dX1_holds_3 : decode cX1_holds 3 = .ok (.iconst 1, 1) := by decide +kernel
theorem dX1_holds_4 : decode cX1_holds 4 = .ok (.iand, 1) := by decide +kernel
theorem dX1_holds_5 : decode cX1_holds 5 = .ok (.ifCond .eq 7, 3) := by decide +kernel
theorem dX1_holds_8 : decode cX1_holds 8 = .ok (.iconst 1, 1) := by decide +kernel
theorem dX1_holds_9 : decode cX1_holds 9 = .ok (.goto 4, 3) := by decide +kernel
theorem dX1_holds_12 : decode cX1_holds 12 = .ok (.iconst 0, 1) := by decide +kernel
theorem dX1_holds_13 : decode cX1_holds 13 = .ok (.ireturn, 1) := by decide +kernel
theorem dX2_init_0 : decode cX2_init 0 = .ok (.aload_n 0, 1) := by decide +kernel
theorem dX2_init_1 : decode cX2_init 1 = .ok (.invokespecial 3, 3) := by decide +kernel
theorem dX2_init_4 : decode cX2_init 4 = .ok (.aload_n 0, 1) := by decide +kernel
theorem dX2_init_5 : decode cX2_init 5 = .ok (.iconst 3, 1) := by decide +kernel
theorem dX2_init_6 : decode cX2_init 6 = .ok (.newarray .int, 2) := by decide +kernel
theorem dX2_init_8 : decode cX2_init 8 = .ok (.putfield 9, 3) := by decide +kernel
theorem dX2_init_11 : decode cX2_init 11 = .ok (.aload_n 0, 1) := by decide +kernel
theorem dX2_init_12 : decode cX2_init 12 = .ok (.iconst 3, 1) := by decide +kernel
theorem dX2_init_13 : decode cX2_init 13 = .ok (.newarray .int, 2) := by decide +kernel
theorem dX2_init_15 : decode cX2_init 15 = .ok (.putfield 15, 3) := by decide +kernel
theorem dX2_init_18 : decode cX2_init 18 = .ok (.aload_n 0, 1) := by decide +kernel
theorem dX2_init_19 : decode cX2_init 19 = .ok (.iconst 3, 1) := by decide +kernel
theorem dX2_init_20 : decode cX2_init 20 = .ok (.newarray .int, 2) := by decide +kernel
theorem dX2_init_22 : decode cX2_init 22 = .ok (.putfield 18, 3) := by decide +kernel
theorem dX2_init_25 : decode cX2_init 25 = .ok (.aload_n 0, 1) := by decide +kernel
theorem dX2_init_26 : decode cX2_init 26 = .ok (.iconst 5, 1) := by decide +kernel
theorem dX2_init_27 : decode cX2_init 27 = .ok (.newarray .int, 2) := by decide +kernel
theorem dX2_init_29 : decode cX2_init 29 = .ok (.putfield 21, 3) := by decide +kernel
theorem dX2_init_32 : decode cX2_init 32 = .ok (.return_, 1) := by decide +kernel
theorem dX2_hear_0 : decode cX2_hear 0 = .ok (.aload_n 0, 1) := by decide +kernel
theorem dX2_hear_1 : decode cX2_hear 1 = .ok (.getfield 9, 3) := by decide +kernel
theorem dX2_hear_4 : decode cX2_hear 4 = .ok (.iconst 0, 1) := by decide +kernel
theorem dX2_hear_5 : decode cX2_hear 5 = .ok (.iload_n 1, 1) := by decide +kernel
theorem dX2_hear_6 : decode cX2_hear 6 = .ok (.iastore, 1) := by decide +kernel
theorem dX2_hear_7 : decode cX2_hear 7 = .ok (.aload_n 0, 1) := by decide +kernel
theorem dX2_hear_8 : decode cX2_hear 8 = .ok (.getfield 9, 3) := by decide +kernel
theorem dX2_hear_11 : decode cX2_hear 11 = .ok (.iconst 1, 1) := by decide +kernel
theorem dX2_hear_12 : decode cX2_hear 12 = .ok (.iload_n 2, 1) := by decide +kernel
theorem dX2_hear_13 : decode cX2_hear 13 = .ok (.iastore, 1) := by decide +kernel
theorem dX2_hear_14 : decode cX2_hear 14 = .ok (.aload_n 0, 1) := by decide +kernel
theorem dX2_hear_15 : decode cX2_hear 15 = .ok (.getfield 9, 3) := by decide +kernel
theorem dX2_hear_18 : decode cX2_hear 18 = .ok (.iconst 2, 1) := by decide +kernel
theorem dX2_hear_19 : decode cX2_hear 19 = .ok (.iload_n 3, 1) := by decide +kernel
theorem dX2_hear_20 : decode cX2_hear 20 = .ok (.iastore, 1) := by decide +kernel
theorem dX2_hear_21 : decode cX2_hear 21 = .ok (.aload_n 0, 1) := by decide +kernel
theorem dX2_hear_22 : decode cX2_hear 22 = .ok (.iload_n 2, 1) := by decide +kernel
theorem dX2_hear_23 : decode cX2_hear 23 = .ok (.iconst (-1), 1) := by decide +kernel
theorem dX2_hear_24 : decode cX2_hear 24 = .ok (.if_icmp .ne 7, 3) := by decide +kernel
theorem dX2_hear_27 : decode cX2_hear 27 = .ok (.iconst 1, 1) := by decide +kernel
theorem dX2_hear_28 : decode cX2_hear 28 = .ok (.goto 13, 3) := by decide +kernel
theorem dX2_hear_31 : decode cX2_hear 31 = .ok (.iload_n 3, 1) := by decide +kernel
theorem dX2_hear_32 : decode cX2_hear 32 = .ok (.iconst (-1), 1) := by decide +kernel
theorem dX2_hear_33 : decode cX2_hear 33 = .ok (.if_icmp .ne 7, 3) := by decide +kernel
theorem dX2_hear_36 : decode cX2_hear 36 = .ok (.iconst 2, 1) := by decide +kernel
theorem dX2_hear_37 : decode cX2_hear 37 = .ok (.goto 4, 3) := by decide +kernel
theorem dX2_hear_40 : decode cX2_hear 40 = .ok (.iconst 3, 1) := by decide +kernel
theorem dX2_hear_41 : decode cX2_hear 41 = .ok (.putfield 24, 3) := by decide +kernel
theorem dX2_hear_44 : decode cX2_hear 44 = .ok (.return_, 1) := by decide +kernel
theorem dX2_fewestUnits_0 : decode cX2_fewestUnits 0 = .ok (.aload_n 0, 1) := by decide +kernel
theorem dX2_fewestUnits_1 : decode cX2_fewestUnits 1 = .ok (.bipush (-9), 2) := by decide +kernel
theorem dX2_fewestUnits_3 : decode cX2_fewestUnits 3 = .ok (.putfield 28, 3) := by decide +kernel
theorem dX2_fewestUnits_6 : decode cX2_fewestUnits 6 = .ok (.aload_n 0, 1) := by decide +kernel
theorem dX2_fewestUnits_7 : decode cX2_fewestUnits 7 = .ok (.aload_n 1, 1) := by decide +kernel
theorem dX2_fewestUnits_8 : decode cX2_fewestUnits 8 = .ok (.iconst 0, 1) := by decide +kernel
theorem dX2_fewestUnits_9 : decode cX2_fewestUnits 9 = .ok (.iload_n 2, 1) := by decide +kernel
theorem dX2_fewestUnits_10 : decode cX2_fewestUnits 10 = .ok (.iconst 0, 1) := by decide +kernel
theorem dX2_fewestUnits_11 : decode cX2_fewestUnits 11 = .ok (.invokestatic 31, 3) := by decide +kernel
theorem dX2_fewestUnits_14 : decode cX2_fewestUnits 14 = .ok (.aload_n 0, 1) := by decide +kernel
theorem dX2_fewestUnits_15 : decode cX2_fewestUnits 15 = .ok (.getfield 28, 3) := by decide +kernel
theorem dX2_fewestUnits_18 : decode cX2_fewestUnits 18 = .ok (.ireturn, 1) := by decide +kernel
theorem dX2_mostPlaces_0 : decode cX2_mostPlaces 0 = .ok (.iconst 0, 1) := by decide +kernel
theorem dX2_mostPlaces_1 : decode cX2_mostPlaces 1 = .ok (.istore_n 2, 1) := by decide +kernel
theorem dX2_mostPlaces_2 : decode cX2_mostPlaces 2 = .ok (.iconst 1, 1) := by decide +kernel
theorem dX2_mostPlaces_3 : decode cX2_mostPlaces 3 = .ok (.istore_n 3, 1) := by decide +kernel
theorem dX2_mostPlaces_4 : decode cX2_mostPlaces 4 = .ok (.iload_n 3, 1) := by decide +kernel
theorem dX2_mostPlaces_5 : decode cX2_mostPlaces 5 = .ok (.iconst 1, 1) := by decide +kernel
theorem dX2_mostPlaces_6 : decode cX2_mostPlaces 6 = .ok (.aload_n 0, 1) := by decide +kernel
theorem dX2_mostPlaces_7 : decode cX2_mostPlaces 7 = .ok (.getfield 24, 3) := by decide +kernel
theorem dX2_mostPlaces_10 : decode cX2_mostPlaces 10 = .ok (.ishl, 1) := by decide +kernel
theorem dX2_mostPlaces_11 : decode cX2_mostPlaces 11 = .ok (.if_icmp .ge 45, 3) := by decide +kernel
theorem dX2_mostPlaces_14 : decode cX2_mostPlaces 14 = .ok (.iload_n 3, 1) := by decide +kernel
theorem dX2_mostPlaces_15 : decode cX2_mostPlaces 15 = .ok (.invokestatic 35, 3) := by decide +kernel
theorem dX2_mostPlaces_18 : decode cX2_mostPlaces 18 = .ok (.iload_n 2, 1) := by decide +kernel
theorem dX2_mostPlaces_19 : decode cX2_mostPlaces 19 = .ok (.invokestatic 35, 3) := by decide +kernel
theorem dX2_mostPlaces_22 : decode cX2_mostPlaces 22 = .ok (.if_icmp .le 7, 3) := by decide +kernel
theorem dX2_mostPlaces_25 : decode cX2_mostPlaces 25 = .ok (.iconst 1, 1) := by decide +kernel
theorem dX2_mostPlaces_26 : decode cX2_mostPlaces 26 = .ok (.goto 4, 3) := by decide +kernel
theorem dX2_mostPlaces_29 : decode cX2_mostPlaces 29 = .ok (.iconst 0, 1) := by decide +kernel
theorem dX2_mostPlaces_30 : decode cX2_mostPlaces 30 = .ok (.istore 4, 2) := by decide +kernel
theorem dX2_mostPlaces_32 : decode cX2_mostPlaces 32 = .ok (.iload 4, 2) := by decide +kernel
theorem dX2_mostPlaces_34 : decode cX2_mostPlaces 34 = .ok (.ifCond .eq 16, 3) := by decide +kernel
theorem dX2_mostPlaces_37 : decode cX2_mostPlaces 37 = .ok (.aload_n 0, 1) := by decide +kernel
theorem dX2_mostPlaces_38 : decode cX2_mostPlaces 38 = .ok (.aload_n 1, 1) := by decide +kernel
theorem dX2_mostPlaces_39 : decode cX2_mostPlaces 39 = .ok (.iload_n 3, 1) := by decide +kernel
theorem dX2_mostPlaces_40 : decode cX2_mostPlaces 40 = .ok (.invokevirtual 41, 3) := by decide +kernel
theorem dX2_mostPlaces_43 : decode cX2_mostPlaces 43 = .ok (.bipush (-9), 2) := by decide +kernel
theorem dX2_mostPlaces_45 : decode cX2_mostPlaces 45 = .ok (.if_icmp .eq 5, 3) := by decide +kernel
theorem dX2_mostPlaces_48 : decode cX2_mostPlaces 48 = .ok (.iload_n 3, 1) := by decide +kernel
theorem dX2_mostPlaces_49 : decode cX2_mostPlaces 49 = .ok (.istore_n 2, 1) := by decide +kernel
theorem dX2_mostPlaces_50 : decode cX2_mostPlaces 50 = .ok (.iinc 3 1, 3) := by decide +kernel
theorem dX2_mostPlaces_53 : decode cX2_mostPlaces 53 = .ok (.goto (-49), 3) := by decide +kernel
theorem dX2_mostPlaces_56 : decode cX2_mostPlaces 56 = .ok (.iload_n 2, 1) := by decide +kernel
theorem dX2_mostPlaces_57 : decode cX2_mostPlaces 57 = .ok (.ireturn, 1) := by decide +kernel
theorem dX2_choose_0 : decode cX2_choose 0 = .ok (.iload_n 2, 1) := by decide +kernel
theorem dX2_choose_1 : decode cX2_choose 1 = .ok (.aload_n 0, 1) := by decide +kernel
theorem dX2_choose_2 : decode cX2_choose 2 = .ok (.getfield 24, 3) := by decide +kernel
theorem dX2_choose_5 : decode cX2_choose 5 = .ok (.if_icmp .ge 8, 3) := by decide +kernel
theorem dX2_choose_8 : decode cX2_choose 8 = .ok (.iload_n 2, 1) := by decide +kernel
theorem dX2_choose_9 : decode cX2_choose 9 = .ok (.iconst 3, 1) := by decide +kernel
theorem dX2_choose_10 : decode cX2_choose 10 = .ok (.if_icmp .lt 10, 3) := by decide +kernel
theorem dX2_choose_13 : decode cX2_choose 13 = .ok (.aload_n 0, 1) := by decide +kernel
theorem dX2_choose_14 : decode cX2_choose 14 = .ok (.iload 4, 2) := by decide +kernel
theorem dX2_choose_16 : decode cX2_choose 16 = .ok (.invokevirtual 45, 3) := by decide +kernel
theorem dX2_choose_19 : decode cX2_choose 19 = .ok (.return_, 1) := by decide +kernel
theorem dX2_choose_20 : decode cX2_choose 20 = .ok (.iload_n 3, 1) := by decide +kernel
theorem dX2_choose_21 : decode cX2_choose 21 = .ok (.iload_n 2, 1) := by decide +kernel
theorem dX2_choose_22 : decode cX2_choose 22 = .ok (.ishr, 1) := by decide +kernel
theorem dX2_choose_23 : decode cX2_choose 23 = .ok (.iconst 1, 1) := by decide +kernel
theorem dX2_choose_24 : decode cX2_choose 24 = .ok (.iand, 1) := by decide +kernel
theorem dX2_choose_25 : decode cX2_choose 25 = .ok (.ifCond .ne 15, 3) := by decide +kernel
theorem dX2_choose_28 : decode cX2_choose 28 = .ok (.aload_n 0, 1) := by decide +kernel
theorem dX2_choose_29 : decode cX2_choose 29 = .ok (.aload_n 1, 1) := by decide +kernel
theorem dX2_choose_30 : decode cX2_choose 30 = .ok (.iload_n 2, 1) := by decide +kernel
theorem dX2_choose_31 : decode cX2_choose 31 = .ok (.iconst 1, 1) := by decide +kernel
theorem dX2_choose_32 : decode cX2_choose 32 = .ok (.iadd, 1) := by decide +kernel
theorem dX2_choose_33 : decode cX2_choose 33 = .ok (.iload_n 3, 1) := by decide +kernel
theorem dX2_choose_34 : decode cX2_choose 34 = .ok (.iload 4, 2) := by decide +kernel
theorem dX2_choose_36 : decode cX2_choose 36 = .ok (.invokestatic 31, 3) := by decide +kernel
theorem dX2_choose_39 : decode cX2_choose 39 = .ok (.return_, 1) := by decide +kernel
theorem dX2_choose_40 : decode cX2_choose 40 = .ok (.iconst 0, 1) := by decide +kernel
theorem dX2_choose_41 : decode cX2_choose 41 = .ok (.istore 5, 2) := by decide +kernel
theorem dX2_choose_43 : decode cX2_choose 43 = .ok (.iload 5, 2) := by decide +kernel
theorem dX2_choose_45 : decode cX2_choose 45 = .ok (.aload_n 1, 1) := by decide +kernel
theorem dX2_choose_46 : decode cX2_choose 46 = .ok (.getfield 49, 3) := by decide +kernel
theorem dX2_choose_49 : decode cX2_choose 49 = .ok (.if_icmp .ge 88, 3) := by decide +kernel
theorem dX2_choose_52 : decode cX2_choose 52 = .ok (.aload_n 1, 1) := by decide +kernel
theorem dX2_choose_53 : decode cX2_choose 53 = .ok (.getfield 54, 3) := by decide +kernel
theorem dX2_choose_56 : decode cX2_choose 56 = .ok (.iload 5, 2) := by decide +kernel
theorem dX2_choose_58 : decode cX2_choose 58 = .ok (.iaload, 1) := by decide +kernel
theorem dX2_choose_59 : decode cX2_choose 59 = .ok (.aload_n 0, 1) := by decide +kernel
theorem dX2_choose_60 : decode cX2_choose 60 = .ok (.getfield 9, 3) := by decide +kernel
theorem dX2_choose_63 : decode cX2_choose 63 = .ok (.iload_n 2, 1) := by decide +kernel
theorem dX2_choose_64 : decode cX2_choose 64 = .ok (.iaload, 1) := by decide +kernel
theorem dX2_choose_65 : decode cX2_choose 65 = .ok (.if_icmp .ne 66, 3) := by decide +kernel
theorem dX2_choose_68 : decode cX2_choose 68 = .ok (.aload_n 1, 1) := by decide +kernel
theorem dX2_choose_69 : decode cX2_choose 69 = .ok (.iload 5, 2) := by decide +kernel
theorem dX2_choose_71 : decode cX2_choose 71 = .ok (.aload_n 0, 1) := by decide +kernel
theorem dX2_choose_72 : decode cX2_choose 72 = .ok (.getfield 21, 3) := by decide +kernel
theorem dX2_choose_75 : decode cX2_choose 75 = .ok (.invokevirtual 57, 3) := by decide +kernel
theorem dX2_choose_78 : decode cX2_choose 78 = .ok (.ifCond .ne 6, 3) := by decide +kernel
theorem dX2_choose_81 : decode cX2_choose 81 = .ok (.goto 50, 3) := by decide +kernel
theorem dX2_choose_84 : decode cX2_choose 84 = .ok (.aload_n 0, 1) := by decide +kernel
theorem dX2_choose_85 : decode cX2_choose 85 = .ok (.getfield 15, 3) := by decide +kernel
theorem dX2_choose_88 : decode cX2_choose 88 = .ok (.iload_n 2, 1) := by decide +kernel
theorem dX2_choose_89 : decode cX2_choose 89 = .ok (.iload 5, 2) := by decide +kernel
theorem dX2_choose_91 : decode cX2_choose 91 = .ok (.iastore, 1) := by decide +kernel
theorem dX2_choose_92 : decode cX2_choose 92 = .ok (.aload_n 1, 1) := by decide +kernel
theorem dX2_choose_93 : decode cX2_choose 93 = .ok (.iload 5, 2) := by decide +kernel
theorem dX2_choose_95 : decode cX2_choose 95 = .ok (.aload_n 0, 1) := by decide +kernel
theorem dX2_choose_96 : decode cX2_choose 96 = .ok (.getfield 21, 3) := by decide +kernel
theorem dX2_choose_99 : decode cX2_choose 99 = .ok (.invokevirtual 61, 3) := by decide +kernel
theorem dX2_choose_102 : decode cX2_choose 102 = .ok (.aload_n 0, 1) := by decide +kernel
theorem dX2_choose_103 : decode cX2_choose 103 = .ok (.aload_n 1, 1) := by decide +kernel
theorem dX2_choose_104 : decode cX2_choose 104 = .ok (.iload_n 2, 1) := by decide +kernel
theorem dX2_choose_105 : decode cX2_choose 105 = .ok (.iconst 1, 1) := by decide +kernel
theorem dX2_choose_106 : decode cX2_choose 106 = .ok (.iadd, 1) := by decide +kernel
theorem dX2_choose_107 : decode cX2_choose 107 = .ok (.iload_n 3, 1) := by decide +kernel
theorem dX2_choose_108 : decode cX2_choose 108 = .ok (.iload 4, 2) := by decide +kernel
theorem dX2_choose_110 : decode cX2_choose 110 = .ok (.aload_n 1, 1) := by decide +kernel
theorem dX2_choose_111 : decode cX2_choose 111 = .ok (.getfield 65, 3) := by decide +kernel
theorem dX2_choose_114 : decode cX2_choose 114 = .ok (.iload 5, 2) := by decide +kernel
theorem dX2_choose_116 : decode cX2_choose 116 = .ok (.iaload, 1) := by decide +kernel
theorem dX2_choose_117 : decode cX2_choose 117 = .ok (.iadd, 1) := by decide +kernel
theorem dX2_choose_118 : decode cX2_choose 118 = .ok (.invokestatic 31, 3) := by decide +kernel
theorem dX2_choose_121 : decode cX2_choose 121 = .ok (.aload_n 1, 1) := by decide +kernel
theorem dX2_choose_122 : decode cX2_choose 122 = .ok (.iload 5, 2) := by decide +kernel
theorem dX2_choose_124 : decode cX2_choose 124 = .ok (.aload_n 0, 1) := by decide +kernel
theorem dX2_choose_125 : decode cX2_choose 125 = .ok (.getfield 21, 3) := by decide +kernel
theorem dX2_choose_128 : decode cX2_choose 128 = .ok (.invokevirtual 68, 3) := by decide +kernel
theorem dX2_choose_131 : decode cX2_choose 131 = .ok (.iinc 5 1, 3) := by decide +kernel
theorem dX2_choose_134 : decode cX2_choose 134 = .ok (.goto (-91), 3) := by decide +kernel
theorem dX2_choose_137 : decode cX2_choose 137 = .ok (.return_, 1) := by decide +kernel
theorem dX2_compare_0 : decode cX2_compare 0 = .ok (.aload_n 0, 1) := by decide +kernel
theorem dX2_compare_1 : decode cX2_compare 1 = .ok (.getfield 28, 3) := by decide +kernel
theorem dX2_compare_4 : decode cX2_compare 4 = .ok (.bipush (-9), 2) := by decide +kernel
theorem dX2_compare_6 : decode cX2_compare 6 = .ok (.if_icmp .eq 12, 3) := by decide +kernel
theorem dX2_compare_9 : decode cX2_compare 9 = .ok (.iload_n 1, 1) := by decide +kernel
theorem dX2_compare_10 : decode cX2_compare 10 = .ok (.aload_n 0, 1) := by decide +kernel
theorem dX2_compare_11 : decode cX2_compare 11 = .ok (.getfield 28, 3) := by decide +kernel
theorem dX2_compare_14 : decode cX2_compare 14 = .ok (.if_icmp .lt 4, 3) := by decide +kernel
theorem dX2_compare_17 : decode cX2_compare 17 = .ok (.return_, 1) := by decide +kernel
theorem dX2_compare_18 : decode cX2_compare 18 = .ok (.aload_n 0, 1) := by decide +kernel
theorem dX2_compare_19 : decode cX2_compare 19 = .ok (.iload_n 1, 1) := by decide +kernel
theorem dX2_compare_20 : decode cX2_compare 20 = .ok (.putfield 28, 3) := by decide +kernel
theorem dX2_compare_23 : decode cX2_compare 23 = .ok (.iconst 0, 1) := by decide +kernel
theorem dX2_compare_24 : decode cX2_compare 24 = .ok (.istore_n 2, 1) := by decide +kernel
theorem dX2_compare_25 : decode cX2_compare 25 = .ok (.iload_n 2, 1) := by decide +kernel
theorem dX2_compare_26 : decode cX2_compare 26 = .ok (.iconst 3, 1) := by decide +kernel
theorem dX2_compare_27 : decode cX2_compare 27 = .ok (.if_icmp .ge 21, 3) := by decide +kernel
theorem dX2_compare_30 : decode cX2_compare 30 = .ok (.aload_n 0, 1) := by decide +kernel
theorem dX2_compare_31 : decode cX2_compare 31 = .ok (.getfield 18, 3) := by decide +kernel
theorem dX2_compare_34 : decode cX2_compare 34 = .ok (.iload_n 2, 1) := by decide +kernel
theorem dX2_compare_35 : decode cX2_compare 35 = .ok (.aload_n 0, 1) := by decide +kernel
theorem dX2_compare_36 : decode cX2_compare 36 = .ok (.getfield 15, 3) := by decide +kernel
theorem dX2_compare_39 : decode cX2_compare 39 = .ok (.iload_n 2, 1) := by decide +kernel
theorem dX2_compare_40 : decode cX2_compare 40 = .ok (.iaload, 1) := by decide +kernel
theorem dX2_compare_41 : decode cX2_compare 41 = .ok (.iastore, 1) := by decide +kernel
theorem dX2_compare_42 : decode cX2_compare 42 = .ok (.iinc 2 1, 3) := by decide +kernel
theorem dX2_compare_45 : decode cX2_compare 45 = .ok (.goto (-20), 3) := by decide +kernel
theorem dX2_compare_48 : decode cX2_compare 48 = .ok (.return_, 1) := by decide +kernel
theorem dX3_init_0 : decode cX3_init 0 = .ok (.aload_n 0, 1) := by decide +kernel
theorem dX3_init_1 : decode cX3_init 1 = .ok (.invokespecial 3, 3) := by decide +kernel
theorem dX3_init_4 : decode cX3_init 4 = .ok (.aload_n 0, 1) := by decide +kernel
theorem dX3_init_5 : decode cX3_init 5 = .ok (.bipush 30, 2) := by decide +kernel
theorem dX3_init_7 : decode cX3_init 7 = .ok (.newarray .int, 2) := by decide +kernel
theorem dX3_init_9 : decode cX3_init 9 = .ok (.putfield 9, 3) := by decide +kernel
theorem dX3_init_12 : decode cX3_init 12 = .ok (.aload_n 0, 1) := by decide +kernel
theorem dX3_init_13 : decode cX3_init 13 = .ok (.bipush 20, 2) := by decide +kernel
theorem dX3_init_15 : decode cX3_init 15 = .ok (.newarray .int, 2) := by decide +kernel
theorem dX3_init_17 : decode cX3_init 17 = .ok (.putfield 15, 3) := by decide +kernel
theorem dX3_init_20 : decode cX3_init 20 = .ok (.aload_n 0, 1) := by decide +kernel
theorem dX3_init_21 : decode cX3_init 21 = .ok (.bipush 20, 2) := by decide +kernel
theorem dX3_init_23 : decode cX3_init 23 = .ok (.newarray .int, 2) := by decide +kernel
theorem dX3_init_25 : decode cX3_init 25 = .ok (.putfield 18, 3) := by decide +kernel
theorem dX3_init_28 : decode cX3_init 28 = .ok (.aload_n 0, 1) := by decide +kernel
theorem dX3_init_29 : decode cX3_init 29 = .ok (.iconst 0, 1) := by decide +kernel
theorem dX3_init_30 : decode cX3_init 30 = .ok (.putfield 21, 3) := by decide +kernel
theorem dX3_init_33 : decode cX3_init 33 = .ok (.aload_n 0, 1) := by decide +kernel
theorem dX3_init_34 : decode cX3_init 34 = .ok (.iconst 0, 1) := by decide +kernel
theorem dX3_init_35 : decode cX3_init 35 = .ok (.putfield 25, 3) := by decide +kernel
theorem dX3_init_38 : decode cX3_init 38 = .ok (.aload_n 0, 1) := by decide +kernel
theorem dX3_init_39 : decode cX3_init 39 = .ok (.iconst 0, 1) := by decide +kernel
theorem dX3_init_40 : decode cX3_init 40 = .ok (.putfield 28, 3) := by decide +kernel
theorem dX3_init_43 : decode cX3_init 43 = .ok (.aload_n 0, 1) := by decide +kernel
theorem dX3_init_44 : decode cX3_init 44 = .ok (.iconst 1, 1) := by decide +kernel
theorem dX3_init_45 : decode cX3_init 45 = .ok (.putfield 31, 3) := by decide +kernel
theorem dX3_init_48 : decode cX3_init 48 = .ok (.aload_n 0, 1) := by decide +kernel
theorem dX3_init_49 : decode cX3_init 49 = .ok (.iconst 0, 1) := by decide +kernel
theorem dX3_init_50 : decode cX3_init 50 = .ok (.putfield 34, 3) := by decide +kernel
theorem dX3_init_53 : decode cX3_init 53 = .ok (.return_, 1) := by decide +kernel
theorem dX3_become_0 : decode cX3_become 0 = .ok (.aload_n 0, 1) := by decide +kernel
theorem dX3_become_1 : decode cX3_become 1 = .ok (.aload_n 1, 1) := by decide +kernel
theorem dX3_become_2 : decode cX3_become 2 = .ok (.getfield 21, 3) := by decide +kernel
theorem dX3_become_5 : decode cX3_become 5 = .ok (.putfield 21, 3) := by decide +kernel
theorem dX3_become_8 : decode cX3_become 8 = .ok (.aload_n 0, 1) := by decide +kernel
theorem dX3_become_9 : decode cX3_become 9 = .ok (.aload_n 1, 1) := by decide +kernel
theorem dX3_become_10 : decode cX3_become 10 = .ok (.getfield 25, 3) := by decide +kernel
theorem dX3_become_13 : decode cX3_become 13 = .ok (.putfield 25, 3) := by decide +kernel
theorem dX3_become_16 : decode cX3_become 16 = .ok (.aload_n 0, 1) := by decide +kernel
theorem dX3_become_17 : decode cX3_become 17 = .ok (.aload_n 1, 1) := by decide +kernel
theorem dX3_become_18 : decode cX3_become 18 = .ok (.getfield 28, 3) := by decide +kernel
theorem dX3_become_21 : decode cX3_become 21 = .ok (.putfield 28, 3) := by decide +kernel
theorem dX3_become_24 : decode cX3_become 24 = .ok (.aload_n 0, 1) := by decide +kernel
theorem dX3_become_25 : decode cX3_become 25 = .ok (.aload_n 1, 1) := by decide +kernel
theorem dX3_become_26 : decode cX3_become 26 = .ok (.getfield 31, 3) := by decide +kernel
theorem dX3_become_29 : decode cX3_become 29 = .ok (.putfield 31, 3) := by decide +kernel
theorem dX3_become_32 : decode cX3_become 32 = .ok (.iconst 0, 1) := by decide +kernel
theorem dX3_become_33 : decode cX3_become 33 = .ok (.istore_n 2, 1) := by decide +kernel
theorem dX3_become_34 : decode cX3_become 34 = .ok (.iload_n 2, 1) := by decide +kernel
theorem dX3_become_35 : decode cX3_become 35 = .ok (.bipush 30, 2) := by decide +kernel
theorem dX3_become_37 : decode cX3_become 37 = .ok (.if_icmp .ge 21, 3) := by decide +kernel
theorem dX3_become_40 : decode cX3_become 40 = .ok (.aload_n 0, 1) := by decide +kernel
theorem dX3_become_41 : decode cX3_become 41 = .ok (.getfield 9, 3) := by decide +kernel
theorem dX3_become_44 : decode cX3_become 44 = .ok (.iload_n 2, 1) := by decide +kernel
theorem dX3_become_45 : decode cX3_become 45 = .ok (.aload_n 1, 1) := by decide +kernel
theorem dX3_become_46 : decode cX3_become 46 = .ok (.getfield 9, 3) := by decide +kernel
theorem dX3_become_49 : decode cX3_become 49 = .ok (.iload_n 2, 1) := by decide +kernel
theorem dX3_become_50 : decode cX3_become 50 = .ok (.iaload, 1) := by decide +kernel
theorem dX3_become_51 : decode cX3_become 51 = .ok (.iastore, 1) := by decide +kernel
theorem dX3_become_52 : decode cX3_become 52 = .ok (.iinc 2 1, 3) := by decide +kernel
theorem dX3_become_55 : decode cX3_become 55 = .ok (.goto (-21), 3) := by decide +kernel
theorem dX3_become_58 : decode cX3_become 58 = .ok (.iconst 0, 1) := by decide +kernel
theorem dX3_become_59 : decode cX3_become 59 = .ok (.istore_n 2, 1) := by decide +kernel
theorem dX3_become_60 : decode cX3_become 60 = .ok (.iload_n 2, 1) := by decide +kernel
theorem dX3_become_61 : decode cX3_become 61 = .ok (.bipush 20, 2) := by decide +kernel
theorem dX3_become_63 : decode cX3_become 63 = .ok (.if_icmp .ge 33, 3) := by decide +kernel
theorem dX3_become_66 : decode cX3_become 66 = .ok (.aload_n 0, 1) := by decide +kernel
theorem dX3_become_67 : decode cX3_become 67 = .ok (.getfield 15, 3) := by decide +kernel
theorem dX3_become_70 : decode cX3_become 70 = .ok (.iload_n 2, 1) := by decide +kernel
theorem dX3_become_71 : decode cX3_become 71 = .ok (.aload_n 1, 1) := by decide +kernel
theorem dX3_become_72 : decode cX3_become 72 = .ok (.getfield 15, 3) := by decide +kernel
theorem dX3_become_75 : decode cX3_become 75 = .ok (.iload_n 2, 1) := by decide +kernel
theorem dX3_become_76 : decode cX3_become 76 = .ok (.iaload, 1) := by decide +kernel
theorem dX3_become_77 : decode cX3_become 77 = .ok (.iastore, 1) := by decide +kernel
theorem dX3_become_78 : decode cX3_become 78 = .ok (.aload_n 0, 1) := by decide +kernel
theorem dX3_become_79 : decode cX3_become 79 = .ok (.getfield 18, 3) := by decide +kernel
theorem dX3_become_82 : decode cX3_become 82 = .ok (.iload_n 2, 1) := by decide +kernel
theorem dX3_become_83 : decode cX3_become 83 = .ok (.aload_n 1, 1) := by decide +kernel
theorem dX3_become_84 : decode cX3_become 84 = .ok (.getfield 18, 3) := by decide +kernel
theorem dX3_become_87 : decode cX3_become 87 = .ok (.iload_n 2, 1) := by decide +kernel
theorem dX3_become_88 : decode cX3_become 88 = .ok (.iaload, 1) := by decide +kernel
theorem dX3_become_89 : decode cX3_become 89 = .ok (.iastore, 1) := by decide +kernel
theorem dX3_become_90 : decode cX3_become 90 = .ok (.iinc 2 1, 3) := by decide +kernel
theorem dX3_become_93 : decode cX3_become 93 = .ok (.goto (-33), 3) := by decide +kernel
theorem dX3_become_96 : decode cX3_become 96 = .ok (.return_, 1) := by decide +kernel
theorem dX3_settle_0 : decode cX3_settle 0 = .ok (.aload_n 0, 1) := by decide +kernel
theorem dX3_settle_1 : decode cX3_settle 1 = .ok (.getfield 21, 3) := by decide +kernel
theorem dX3_settle_4 : decode cX3_settle 4 = .ok (.bipush 6, 2) := by decide +kernel
theorem dX3_settle_6 : decode cX3_settle 6 = .ok (.if_icmp .ge 9, 3) := by decide +kernel
theorem dX3_settle_9 : decode cX3_settle 9 = .ok (.aload_n 1, 1) := by decide +kernel
theorem dX3_settle_10 : decode cX3_settle 10 = .ok (.arraylength, 1) := by decide +kernel
theorem dX3_settle_11 : decode cX3_settle 11 = .ok (.iconst 5, 1) := by decide +kernel
theorem dX3_settle_12 : decode cX3_settle 12 = .ok (.if_icmp .ge 4, 3) := by decide +kernel
theorem dX3_settle_15 : decode cX3_settle 15 = .ok (.return_, 1) := by decide +kernel
theorem dX3_settle_16 : decode cX3_settle 16 = .ok (.iconst 0, 1) := by decide +kernel
theorem dX3_settle_17 : decode cX3_settle 17 = .ok (.istore_n 2, 1) := by decide +kernel
theorem dX3_settle_18 : decode cX3_settle 18 = .ok (.iload_n 2, 1) := by decide +kernel
theorem dX3_settle_19 : decode cX3_settle 19 = .ok (.iconst 5, 1) := by decide +kernel
theorem dX3_settle_20 : decode cX3_settle 20 = .ok (.if_icmp .ge 25, 3) := by decide +kernel
theorem dX3_settle_23 : decode cX3_settle 23 = .ok (.aload_n 0, 1) := by decide +kernel
theorem dX3_settle_24 : decode cX3_settle 24 = .ok (.getfield 9, 3) := by decide +kernel
theorem dX3_settle_27 : decode cX3_settle 27 = .ok (.aload_n 0, 1) := by decide +kernel
theorem dX3_settle_28 : decode cX3_settle 28 = .ok (.getfield 21, 3) := by decide +kernel
theorem dX3_settle_31 : decode cX3_settle 31 = .ok (.iconst 5, 1) := by decide +kernel
theorem dX3_settle_32 : decode cX3_settle 32 = .ok (.imul, 1) := by decide +kernel
theorem dX3_settle_33 : decode cX3_settle 33 = .ok (.iload_n 2, 1) := by decide +kernel
theorem dX3_settle_34 : decode cX3_settle 34 = .ok (.iadd, 1) := by decide +kernel
theorem dX3_settle_35 : decode cX3_settle 35 = .ok (.aload_n 1, 1) := by decide +kernel
theorem dX3_settle_36 : decode cX3_settle 36 = .ok (.iload_n 2, 1) := by decide +kernel
theorem dX3_settle_37 : decode cX3_settle 37 = .ok (.iaload, 1) := by decide +kernel
theorem dX3_settle_38 : decode cX3_settle 38 = .ok (.iastore, 1) := by decide +kernel
theorem dX3_settle_39 : decode cX3_settle 39 = .ok (.iinc 2 1, 3) := by decide +kernel
theorem dX3_settle_42 : decode cX3_settle 42 = .ok (.goto (-24), 3) := by decide +kernel
theorem dX3_settle_45 : decode cX3_settle 45 = .ok (.aload_n 0, 1) := by decide +kernel
theorem dX3_settle_46 : decode cX3_settle 46 = .ok (.dup, 1) := by decide +kernel
theorem dX3_settle_47 : decode cX3_settle 47 = .ok (.getfield 21, 3) := by decide +kernel
theorem dX3_settle_50 : decode cX3_settle 50 = .ok (.iconst 1, 1) := by decide +kernel
theorem dX3_settle_51 : decode cX3_settle 51 = .ok (.iadd, 1) := by decide +kernel
theorem dX3_settle_52 : decode cX3_settle 52 = .ok (.putfield 21, 3) := by decide +kernel
theorem dX3_settle_55 : decode cX3_settle 55 = .ok (.return_, 1) := by decide +kernel
theorem dX3_hasHouse_0 : decode cX3_hasHouse 0 = .ok (.iload_n 1, 1) := by decide +kernel
theorem dX3_hasHouse_1 : decode cX3_hasHouse 1 = .ok (.ifCond .lt 15, 3) := by decide +kernel
theorem dX3_hasHouse_4 : decode cX3_hasHouse 4 = .ok (.iload_n 1, 1) := by decide +kernel
theorem dX3_hasHouse_5 : decode cX3_hasHouse 5 = .ok (.aload_n 0, 1) := by decide +kernel
theorem dX3_hasHouse_6 : decode cX3_hasHouse 6 = .ok (.getfield 21, 3) := by decide +kernel
theorem dX3_hasHouse_9 : decode cX3_hasHouse 9 = .ok (.if_icmp .ge 7, 3) := by decide +kernel
theorem dX3_hasHouse_12 : decode cX3_hasHouse 12 = .ok (.iconst 1, 1) := by decide +kernel
theorem dX3_hasHouse_13 : decode cX3_hasHouse 13 = .ok (.goto 4, 3) := by decide +kernel
theorem dX3_hasHouse_16 : decode cX3_hasHouse 16 = .ok (.iconst 0, 1) := by decide +kernel
theorem dX3_hasHouse_17 : decode cX3_hasHouse 17 = .ok (.ireturn, 1) := by decide +kernel
theorem dX3_stock_0 : decode cX3_stock 0 = .ok (.aload_n 0, 1) := by decide +kernel
theorem dX3_stock_1 : decode cX3_stock 1 = .ok (.getfield 9, 3) := by decide +kernel
theorem dX3_stock_4 : decode cX3_stock 4 = .ok (.iload_n 1, 1) := by decide +kernel
theorem dX3_stock_5 : decode cX3_stock 5 = .ok (.iconst 5, 1) := by decide +kernel
theorem dX3_stock_6 : decode cX3_stock 6 = .ok (.imul, 1) := by decide +kernel
theorem dX3_stock_7 : decode cX3_stock 7 = .ok (.iload_n 2, 1) := by decide +kernel
theorem dX3_stock_8 : decode cX3_stock 8 = .ok (.iadd, 1) := by decide +kernel
theorem dX3_stock_9 : decode cX3_stock 9 = .ok (.iaload, 1) := by decide +kernel
theorem dX3_stock_10 : decode cX3_stock 10 = .ok (.ireturn, 1) := by decide +kernel
theorem dX3_allStock_0 : decode cX3_allStock 0 = .ok (.iconst 0, 1) := by decide +kernel
theorem dX3_allStock_1 : decode cX3_allStock 1 = .ok (.istore_n 2, 1) := by decide +kernel
theorem dX3_allStock_2 : decode cX3_allStock 2 = .ok (.iconst 0, 1) := by decide +kernel
theorem dX3_allStock_3 : decode cX3_allStock 3 = .ok (.istore_n 3, 1) := by decide +kernel
theorem dX3_allStock_4 : decode cX3_allStock 4 = .ok (.iload_n 3, 1) := by decide +kernel
theorem dX3_allStock_5 : decode cX3_allStock 5 = .ok (.iconst 5, 1) := by decide +kernel
theorem dX3_allStock_6 : decode cX3_allStock 6 = .ok (.if_icmp .ge 18, 3) := by decide +kernel
theorem dX3_allStock_9 : decode cX3_allStock 9 = .ok (.iload_n 2, 1) := by decide +kernel
theorem dX3_allStock_10 : decode cX3_allStock 10 = .ok (.aload_n 0, 1) := by decide +kernel
theorem dX3_allStock_11 : decode cX3_allStock 11 = .ok (.iload_n 1, 1) := by decide +kernel
theorem dX3_allStock_12 : decode cX3_allStock 12 = .ok (.iload_n 3, 1) := by decide +kernel
theorem dX3_allStock_13 : decode cX3_allStock 13 = .ok (.invokevirtual 38, 3) := by decide +kernel
theorem dX3_allStock_16 : decode cX3_allStock 16 = .ok (.iadd, 1) := by decide +kernel
theorem dX3_allStock_17 : decode cX3_allStock 17 = .ok (.istore_n 2, 1) := by decide +kernel
theorem dX3_allStock_18 : decode cX3_allStock 18 = .ok (.iinc 3 1, 3) := by decide +kernel
theorem dX3_allStock_21 : decode cX3_allStock 21 = .ok (.goto (-17), 3) := by decide +kernel
theorem dX3_allStock_24 : decode cX3_allStock 24 = .ok (.iload_n 2, 1) := by decide +kernel
theorem dX3_allStock_25 : decode cX3_allStock 25 = .ok (.ireturn, 1) := by decide +kernel
theorem dX3_change_0 : decode cX3_change 0 = .ok (.aload_n 0, 1) := by decide +kernel
theorem dX3_change_1 : decode cX3_change 1 = .ok (.getfield 9, 3) := by decide +kernel
theorem dX3_change_4 : decode cX3_change 4 = .ok (.iload_n 1, 1) := by decide +kernel
theorem dX3_change_5 : decode cX3_change 5 = .ok (.iconst 5, 1) := by decide +kernel
theorem dX3_change_6 : decode cX3_change 6 = .ok (.imul, 1) := by decide +kernel
theorem dX3_change_7 : decode cX3_change 7 = .ok (.iload_n 2, 1) := by decide +kernel
theorem dX3_change_8 : decode cX3_change 8 = .ok (.iadd, 1) := by decide +kernel
theorem dX3_change_9 : decode cX3_change 9 = .ok (.dup2, 1) := by decide +kernel
theorem dX3_change_10 : decode cX3_change 10 = .ok (.iaload, 1) := by decide +kernel
theorem dX3_change_11 : decode cX3_change 11 = .ok (.iload_n 3, 1) := by decide +kernel
theorem dX3_change_12 : decode cX3_change 12 = .ok (.iadd, 1) := by decide +kernel
theorem dX3_change_13 : decode cX3_change 13 = .ok (.iastore, 1) := by decide +kernel
theorem dX3_change_14 : decode cX3_change 14 = .ok (.return_, 1) := by decide +kernel
theorem dX3_fill_0 : decode cX3_fill 0 = .ok (.iconst 0, 1) := by decide +kernel
theorem dX3_fill_1 : decode cX3_fill 1 = .ok (.istore_n 3, 1) := by decide +kernel
theorem dX3_fill_2 : decode cX3_fill 2 = .ok (.iload_n 3, 1) := by decide +kernel
theorem dX3_fill_3 : decode cX3_fill 3 = .ok (.iconst 5, 1) := by decide +kernel
theorem dX3_fill_4 : decode cX3_fill 4 = .ok (.if_icmp .ge 18, 3) := by decide +kernel
theorem dX3_fill_7 : decode cX3_fill 7 = .ok (.aload_n 2, 1) := by decide +kernel
theorem dX3_fill_8 : decode cX3_fill 8 = .ok (.iload_n 3, 1) := by decide +kernel
theorem dX3_fill_9 : decode cX3_fill 9 = .ok (.aload_n 0, 1) := by decide +kernel
theorem dX3_fill_10 : decode cX3_fill 10 = .ok (.iload_n 1, 1) := by decide +kernel
theorem dX3_fill_11 : decode cX3_fill 11 = .ok (.iload_n 3, 1) := by decide +kernel
theorem dX3_fill_12 : decode cX3_fill 12 = .ok (.invokevirtual 38, 3) := by decide +kernel
theorem dX3_fill_15 : decode cX3_fill 15 = .ok (.iastore, 1) := by decide +kernel
theorem dX3_fill_16 : decode cX3_fill 16 = .ok (.iinc 3 1, 3) := by decide +kernel
theorem dX3_fill_19 : decode cX3_fill 19 = .ok (.goto (-17), 3) := by decide +kernel
theorem dX3_fill_22 : decode cX3_fill 22 = .ok (.return_, 1) := by decide +kernel
theorem dX3_rise_0 : decode cX3_rise 0 = .ok (.aload_n 0, 1) := by decide +kernel
theorem dX3_rise_1 : decode cX3_rise 1 = .ok (.getfield 25, 3) := by decide +kernel
end
section
theorem dX3_rise_4 : decode cX3_rise 4 = .ok (.bipush 20, 2) := by decide +kernel
theorem dX3_rise_6 : decode cX3_rise 6 = .ok (.if_icmp .lt 4, 3) := by decide +kernel
theorem dX3_rise_9 : decode cX3_rise 9 = .ok (.return_, 1) := by decide +kernel
theorem dX3_rise_10 : decode cX3_rise 10 = .ok (.aload_n 0, 1) := by decide +kernel
theorem dX3_rise_11 : decode cX3_rise 11 = .ok (.getfield 15, 3) := by decide +kernel
theorem dX3_rise_14 : decode cX3_rise 14 = .ok (.aload_n 0, 1) := by decide +kernel
theorem dX3_rise_15 : decode cX3_rise 15 = .ok (.getfield 25, 3) := by decide +kernel
theorem dX3_rise_18 : decode cX3_rise 18 = .ok (.iload_n 1, 1) := by decide +kernel
theorem dX3_rise_19 : decode cX3_rise 19 = .ok (.iastore, 1) := by decide +kernel
theorem dX3_rise_20 : decode cX3_rise 20 = .ok (.aload_n 0, 1) := by decide +kernel
theorem dX3_rise_21 : decode cX3_rise 21 = .ok (.getfield 18, 3) := by decide +kernel
theorem dX3_rise_24 : decode cX3_rise 24 = .ok (.aload_n 0, 1) := by decide +kernel
theorem dX3_rise_25 : decode cX3_rise 25 = .ok (.getfield 25, 3) := by decide +kernel
theorem dX3_rise_28 : decode cX3_rise 28 = .ok (.iload_n 2, 1) := by decide +kernel
theorem dX3_rise_29 : decode cX3_rise 29 = .ok (.iastore, 1) := by decide +kernel
theorem dX3_rise_30 : decode cX3_rise 30 = .ok (.aload_n 0, 1) := by decide +kernel
theorem dX3_rise_31 : decode cX3_rise 31 = .ok (.dup, 1) := by decide +kernel
theorem dX3_rise_32 : decode cX3_rise 32 = .ok (.getfield 25, 3) := by decide +kernel
theorem dX3_rise_35 : decode cX3_rise 35 = .ok (.iconst 1, 1) := by decide +kernel
theorem dX3_rise_36 : decode cX3_rise 36 = .ok (.iadd, 1) := by decide +kernel
theorem dX3_rise_37 : decode cX3_rise 37 = .ok (.putfield 25, 3) := by decide +kernel
theorem dX3_rise_40 : decode cX3_rise 40 = .ok (.return_, 1) := by decide +kernel
theorem dX3_thousandths_0 : decode cX3_thousandths 0 = .ok (.iconst 1, 1) := by decide +kernel
theorem dX3_thousandths_1 : decode cX3_thousandths 1 = .ok (.istore_n 3, 1) := by decide +kernel
theorem dX3_thousandths_2 : decode cX3_thousandths 2 = .ok (.iconst 0, 1) := by decide +kernel
theorem dX3_thousandths_3 : decode cX3_thousandths 3 = .ok (.istore 4, 2) := by decide +kernel
theorem dX3_thousandths_5 : decode cX3_thousandths 5 = .ok (.iload 4, 2) := by decide +kernel
theorem dX3_thousandths_7 : decode cX3_thousandths 7 = .ok (.iconst 3, 1) := by decide +kernel
theorem dX3_thousandths_8 : decode cX3_thousandths 8 = .ok (.if_icmp .ge 49, 3) := by decide +kernel
theorem dX3_thousandths_11 : decode cX3_thousandths 11 = .ok (.iload_n 1, 1) := by decide +kernel
theorem dX3_thousandths_12 : decode cX3_thousandths 12 = .ok (.iload_n 2, 1) := by decide +kernel
theorem dX3_thousandths_13 : decode cX3_thousandths 13 = .ok (.ixor, 1) := by decide +kernel
theorem dX3_thousandths_14 : decode cX3_thousandths 14 = .ok (.iload 4, 2) := by decide +kernel
theorem dX3_thousandths_16 : decode cX3_thousandths 16 = .ok (.ishr, 1) := by decide +kernel
theorem dX3_thousandths_17 : decode cX3_thousandths 17 = .ok (.iconst 1, 1) := by decide +kernel
theorem dX3_thousandths_18 : decode cX3_thousandths 18 = .ok (.iand, 1) := by decide +kernel
theorem dX3_thousandths_19 : decode cX3_thousandths 19 = .ok (.ifCond .eq 7, 3) := by decide +kernel
theorem dX3_thousandths_22 : decode cX3_thousandths 22 = .ok (.iconst 1, 1) := by decide +kernel
theorem dX3_thousandths_23 : decode cX3_thousandths 23 = .ok (.goto 4, 3) := by decide +kernel
theorem dX3_thousandths_26 : decode cX3_thousandths 26 = .ok (.iconst 0, 1) := by decide +kernel
theorem dX3_thousandths_27 : decode cX3_thousandths 27 = .ok (.istore 5, 2) := by decide +kernel
theorem dX3_thousandths_29 : decode cX3_thousandths 29 = .ok (.iload_n 3, 1) := by decide +kernel
theorem dX3_thousandths_30 : decode cX3_thousandths 30 = .ok (.iload 5, 2) := by decide +kernel
theorem dX3_thousandths_32 : decode cX3_thousandths 32 = .ok (.ifCond .eq 10, 3) := by decide +kernel
theorem dX3_thousandths_35 : decode cX3_thousandths 35 = .ok (.aload_n 0, 1) := by decide +kernel
theorem dX3_thousandths_36 : decode cX3_thousandths 36 = .ok (.getfield 28, 3) := by decide +kernel
theorem dX3_thousandths_39 : decode cX3_thousandths 39 = .ok (.goto 10, 3) := by decide +kernel
theorem dX3_thousandths_42 : decode cX3_thousandths 42 = .ok (.bipush 10, 2) := by decide +kernel
theorem dX3_thousandths_44 : decode cX3_thousandths 44 = .ok (.aload_n 0, 1) := by decide +kernel
theorem dX3_thousandths_45 : decode cX3_thousandths 45 = .ok (.getfield 28, 3) := by decide +kernel
theorem dX3_thousandths_48 : decode cX3_thousandths 48 = .ok (.isub, 1) := by decide +kernel
theorem dX3_thousandths_49 : decode cX3_thousandths 49 = .ok (.imul, 1) := by decide +kernel
theorem dX3_thousandths_50 : decode cX3_thousandths 50 = .ok (.istore_n 3, 1) := by decide +kernel
theorem dX3_thousandths_51 : decode cX3_thousandths 51 = .ok (.iinc 4 1, 3) := by decide +kernel
theorem dX3_thousandths_54 : decode cX3_thousandths 54 = .ok (.goto (-49), 3) := by decide +kernel
theorem dX3_thousandths_57 : decode cX3_thousandths 57 = .ok (.iload_n 3, 1) := by decide +kernel
theorem dX3_thousandths_58 : decode cX3_thousandths 58 = .ok (.ireturn, 1) := by decide +kernel
theorem dX3_draw_0 : decode cX3_draw 0 = .ok (.aload_n 0, 1) := by decide +kernel
theorem dX3_draw_1 : decode cX3_draw 1 = .ok (.aload_n 0, 1) := by decide +kernel
theorem dX3_draw_2 : decode cX3_draw 2 = .ok (.getfield 31, 3) := by decide +kernel
theorem dX3_draw_5 : decode cX3_draw 5 = .ok (.ldc 42, 2) := by decide +kernel
theorem dX3_draw_7 : decode cX3_draw 7 = .ok (.imul, 1) := by decide +kernel
theorem dX3_draw_8 : decode cX3_draw 8 = .ok (.sipush 12345, 3) := by decide +kernel
theorem dX3_draw_11 : decode cX3_draw 11 = .ok (.iadd, 1) := by decide +kernel
theorem dX3_draw_12 : decode cX3_draw 12 = .ok (.putfield 31, 3) := by decide +kernel
theorem dX3_draw_15 : decode cX3_draw 15 = .ok (.aload_n 0, 1) := by decide +kernel
theorem dX3_draw_16 : decode cX3_draw 16 = .ok (.getfield 31, 3) := by decide +kernel
theorem dX3_draw_19 : decode cX3_draw 19 = .ok (.bipush 16, 2) := by decide +kernel
theorem dX3_draw_21 : decode cX3_draw 21 = .ok (.iushr, 1) := by decide +kernel
theorem dX3_draw_22 : decode cX3_draw 22 = .ok (.bipush 10, 2) := by decide +kernel
theorem dX3_draw_24 : decode cX3_draw 24 = .ok (.irem, 1) := by decide +kernel
theorem dX3_draw_25 : decode cX3_draw 25 = .ok (.ireturn, 1) := by decide +kernel
theorem dX4_init_0 : decode cX4_init 0 = .ok (.aload_n 0, 1) := by decide +kernel
theorem dX4_init_1 : decode cX4_init 1 = .ok (.invokespecial 3, 3) := by decide +kernel
theorem dX4_init_4 : decode cX4_init 4 = .ok (.aload_n 0, 1) := by decide +kernel
theorem dX4_init_5 : decode cX4_init 5 = .ok (.new 9, 3) := by decide +kernel
theorem dX4_init_8 : decode cX4_init 8 = .ok (.dup, 1) := by decide +kernel
theorem dX4_init_9 : decode cX4_init 9 = .ok (.invokespecial 11, 3) := by decide +kernel
theorem dX4_init_12 : decode cX4_init 12 = .ok (.putfield 12, 3) := by decide +kernel
theorem dX4_init_15 : decode cX4_init 15 = .ok (.aload_n 0, 1) := by decide +kernel
theorem dX4_init_16 : decode cX4_init 16 = .ok (.new 18, 3) := by decide +kernel
theorem dX4_init_19 : decode cX4_init 19 = .ok (.dup, 1) := by decide +kernel
theorem dX4_init_20 : decode cX4_init 20 = .ok (.invokespecial 20, 3) := by decide +kernel
theorem dX4_init_23 : decode cX4_init 23 = .ok (.putfield 21, 3) := by decide +kernel
theorem dX4_init_26 : decode cX4_init 26 = .ok (.aload_n 0, 1) := by decide +kernel
theorem dX4_init_27 : decode cX4_init 27 = .ok (.bipush 7, 2) := by decide +kernel
theorem dX4_init_29 : decode cX4_init 29 = .ok (.newarray .int, 2) := by decide +kernel
theorem dX4_init_31 : decode cX4_init 31 = .ok (.putfield 25, 3) := by decide +kernel
theorem dX4_init_34 : decode cX4_init 34 = .ok (.aload_n 0, 1) := by decide +kernel
theorem dX4_init_35 : decode cX4_init 35 = .ok (.iconst 0, 1) := by decide +kernel
theorem dX4_init_36 : decode cX4_init 36 = .ok (.putfield 29, 3) := by decide +kernel
theorem dX4_init_39 : decode cX4_init 39 = .ok (.return_, 1) := by decide +kernel
theorem dX4_readAll_0 : decode cX4_readAll 0 = .ok (.aload_n 0, 1) := by decide +kernel
theorem dX4_readAll_1 : decode cX4_readAll 1 = .ok (.getfield 12, 3) := by decide +kernel
theorem dX4_readAll_4 : decode cX4_readAll 4 = .ok (.iconst 0, 1) := by decide +kernel
theorem dX4_readAll_5 : decode cX4_readAll 5 = .ok (.putfield 33, 3) := by decide +kernel
theorem dX4_readAll_8 : decode cX4_readAll 8 = .ok (.aload_n 0, 1) := by decide +kernel
theorem dX4_readAll_9 : decode cX4_readAll 9 = .ok (.getfield 21, 3) := by decide +kernel
theorem dX4_readAll_12 : decode cX4_readAll 12 = .ok (.iconst 0, 1) := by decide +kernel
theorem dX4_readAll_13 : decode cX4_readAll 13 = .ok (.putfield 37, 3) := by decide +kernel
theorem dX4_readAll_16 : decode cX4_readAll 16 = .ok (.aload_n 0, 1) := by decide +kernel
theorem dX4_readAll_17 : decode cX4_readAll 17 = .ok (.getfield 21, 3) := by decide +kernel
theorem dX4_readAll_20 : decode cX4_readAll 20 = .ok (.iconst 0, 1) := by decide +kernel
theorem dX4_readAll_21 : decode cX4_readAll 21 = .ok (.putfield 40, 3) := by decide +kernel
theorem dX4_readAll_24 : decode cX4_readAll 24 = .ok (.aload_n 0, 1) := by decide +kernel
theorem dX4_readAll_25 : decode cX4_readAll 25 = .ok (.getfield 21, 3) := by decide +kernel
theorem dX4_readAll_28 : decode cX4_readAll 28 = .ok (.iconst 0, 1) := by decide +kernel
theorem dX4_readAll_29 : decode cX4_readAll 29 = .ok (.putfield 43, 3) := by decide +kernel
theorem dX4_readAll_32 : decode cX4_readAll 32 = .ok (.aload_n 0, 1) := by decide +kernel
theorem dX4_readAll_33 : decode cX4_readAll 33 = .ok (.iconst 0, 1) := by decide +kernel
theorem dX4_readAll_34 : decode cX4_readAll 34 = .ok (.putfield 29, 3) := by decide +kernel
theorem dX4_readAll_37 : decode cX4_readAll 37 = .ok (.aload_n 1, 1) := by decide +kernel
theorem dX4_readAll_38 : decode cX4_readAll 38 = .ok (.invokevirtual 46, 3) := by decide +kernel
theorem dX4_readAll_41 : decode cX4_readAll 41 = .ok (.iconst 0, 1) := by decide +kernel
theorem dX4_readAll_42 : decode cX4_readAll 42 = .ok (.istore_n 2, 1) := by decide +kernel
theorem dX4_readAll_43 : decode cX4_readAll 43 = .ok (.iload_n 2, 1) := by decide +kernel
theorem dX4_readAll_44 : decode cX4_readAll 44 = .ok (.sipush 300, 3) := by decide +kernel
theorem dX4_readAll_47 : decode cX4_readAll 47 = .ok (.if_icmp .gt 28, 3) := by decide +kernel
theorem dX4_readAll_50 : decode cX4_readAll 50 = .ok (.aload_n 1, 1) := by decide +kernel
theorem dX4_readAll_51 : decode cX4_readAll 51 = .ok (.getfield 51, 3) := by decide +kernel
theorem dX4_readAll_54 : decode cX4_readAll 54 = .ok (.ifCond .ne 5, 3) := by decide +kernel
theorem dX4_readAll_57 : decode cX4_readAll 57 = .ok (.iload_n 2, 1) := by decide +kernel
theorem dX4_readAll_58 : decode cX4_readAll 58 = .ok (.ireturn, 1) := by decide +kernel
theorem dX4_readAll_59 : decode cX4_readAll 59 = .ok (.aload_n 0, 1) := by decide +kernel
theorem dX4_readAll_60 : decode cX4_readAll 60 = .ok (.aload_n 1, 1) := by decide +kernel
theorem dX4_readAll_61 : decode cX4_readAll 61 = .ok (.invokevirtual 54, 3) := by decide +kernel
theorem dX4_readAll_64 : decode cX4_readAll 64 = .ok (.ifCond .ne 5, 3) := by decide +kernel
theorem dX4_readAll_67 : decode cX4_readAll 67 = .ok (.iconst (-1), 1) := by decide +kernel
theorem dX4_readAll_68 : decode cX4_readAll 68 = .ok (.ireturn, 1) := by decide +kernel
theorem dX4_readAll_69 : decode cX4_readAll 69 = .ok (.iinc 2 1, 3) := by decide +kernel
theorem dX4_readAll_72 : decode cX4_readAll 72 = .ok (.goto (-29), 3) := by decide +kernel
theorem dX4_readAll_75 : decode cX4_readAll 75 = .ok (.iconst (-1), 1) := by decide +kernel
theorem dX4_readAll_76 : decode cX4_readAll 76 = .ok (.ireturn, 1) := by decide +kernel
theorem dX4_readItem_0 : decode cX4_readItem 0 = .ok (.aload_n 1, 1) := by decide +kernel
theorem dX4_readItem_1 : decode cX4_readItem 1 = .ok (.getfield 51, 3) := by decide +kernel
theorem dX4_readItem_4 : decode cX4_readItem 4 = .ok (.istore_n 2, 1) := by decide +kernel
theorem dX4_readItem_5 : decode cX4_readItem 5 = .ok (.aload_n 0, 1) := by decide +kernel
theorem dX4_readItem_6 : decode cX4_readItem 6 = .ok (.iload_n 2, 1) := by decide +kernel
theorem dX4_readItem_7 : decode cX4_readItem 7 = .ok (.invokevirtual 58, 3) := by decide +kernel
theorem dX4_readItem_10 : decode cX4_readItem 10 = .ok (.ifCond .ne 5, 3) := by decide +kernel
theorem dX4_readItem_13 : decode cX4_readItem 13 = .ok (.iconst 0, 1) := by decide +kernel
theorem dX4_readItem_14 : decode cX4_readItem 14 = .ok (.ireturn, 1) := by decide +kernel
theorem dX4_readItem_15 : decode cX4_readItem 15 = .ok (.aload_n 1, 1) := by decide +kernel
theorem dX4_readItem_16 : decode cX4_readItem 16 = .ok (.invokevirtual 62, 3) := by decide +kernel
theorem dX4_readItem_19 : decode cX4_readItem 19 = .ok (.iload_n 2, 1) := by decide +kernel
theorem dX4_readItem_20 : decode cX4_readItem 20 = .ok (.invokestatic 65, 3) := by decide +kernel
theorem dX4_readItem_23 : decode cX4_readItem 23 = .ok (.istore_n 3, 1) := by decide +kernel
theorem dX4_readItem_24 : decode cX4_readItem 24 = .ok (.iconst 0, 1) := by decide +kernel
theorem dX4_readItem_25 : decode cX4_readItem 25 = .ok (.istore 4, 2) := by decide +kernel
theorem dX4_readItem_27 : decode cX4_readItem 27 = .ok (.iload 4, 2) := by decide +kernel
theorem dX4_readItem_29 : decode cX4_readItem 29 = .ok (.iload_n 3, 1) := by decide +kernel
theorem dX4_readItem_30 : decode cX4_readItem 30 = .ok (.if_icmp .ge 47, 3) := by decide +kernel
theorem dX4_readItem_33 : decode cX4_readItem 33 = .ok (.aload_n 1, 1) := by decide +kernel
theorem dX4_readItem_34 : decode cX4_readItem 34 = .ok (.getfield 51, 3) := by decide +kernel
theorem dX4_readItem_37 : decode cX4_readItem 37 = .ok (.iconst 2, 1) := by decide +kernel
theorem dX4_readItem_38 : decode cX4_readItem 38 = .ok (.if_icmp .ne 16, 3) := by decide +kernel
theorem dX4_readItem_41 : decode cX4_readItem 41 = .ok (.aload_n 1, 1) := by decide +kernel
theorem dX4_readItem_42 : decode cX4_readItem 42 = .ok (.getfield 69, 3) := by decide +kernel
theorem dX4_readItem_45 : decode cX4_readItem 45 = .ok (.iload_n 2, 1) := by decide +kernel
theorem dX4_readItem_46 : decode cX4_readItem 46 = .ok (.iload 4, 2) := by decide +kernel
theorem dX4_readItem_48 : decode cX4_readItem 48 = .ok (.invokestatic 72, 3) := by decide +kernel
theorem dX4_readItem_51 : decode cX4_readItem 51 = .ok (.if_icmp .le 5, 3) := by decide +kernel
theorem dX4_readItem_54 : decode cX4_readItem 54 = .ok (.iconst 0, 1) := by decide +kernel
theorem dX4_readItem_55 : decode cX4_readItem 55 = .ok (.ireturn, 1) := by decide +kernel
theorem dX4_readItem_56 : decode cX4_readItem 56 = .ok (.aload_n 0, 1) := by decide +kernel
theorem dX4_readItem_57 : decode cX4_readItem 57 = .ok (.getfield 25, 3) := by decide +kernel
theorem dX4_readItem_60 : decode cX4_readItem 60 = .ok (.iload 4, 2) := by decide +kernel
theorem dX4_readItem_62 : decode cX4_readItem 62 = .ok (.aload_n 1, 1) := by decide +kernel
theorem dX4_readItem_63 : decode cX4_readItem 63 = .ok (.getfield 69, 3) := by decide +kernel
theorem dX4_readItem_66 : decode cX4_readItem 66 = .ok (.iastore, 1) := by decide +kernel
theorem dX4_readItem_67 : decode cX4_readItem 67 = .ok (.aload_n 1, 1) := by decide +kernel
theorem dX4_readItem_68 : decode cX4_readItem 68 = .ok (.invokevirtual 62, 3) := by decide +kernel
theorem dX4_readItem_71 : decode cX4_readItem 71 = .ok (.iinc 4 1, 3) := by decide +kernel
theorem dX4_readItem_74 : decode cX4_readItem 74 = .ok (.goto (-47), 3) := by decide +kernel
theorem dX4_readItem_77 : decode cX4_readItem 77 = .ok (.aload_n 1, 1) := by decide +kernel
theorem dX4_readItem_78 : decode cX4_readItem 78 = .ok (.getfield 51, 3) := by decide +kernel
theorem dX4_readItem_81 : decode cX4_readItem 81 = .ok (.iconst 3, 1) := by decide +kernel
theorem dX4_readItem_82 : decode cX4_readItem 82 = .ok (.if_icmp .eq 5, 3) := by decide +kernel
theorem dX4_readItem_85 : decode cX4_readItem 85 = .ok (.iconst 0, 1) := by decide +kernel
theorem dX4_readItem_86 : decode cX4_readItem 86 = .ok (.ireturn, 1) := by decide +kernel
theorem dX4_readItem_87 : decode cX4_readItem 87 = .ok (.aload_n 0, 1) := by decide +kernel
theorem dX4_readItem_88 : decode cX4_readItem 88 = .ok (.iload_n 2, 1) := by decide +kernel
theorem dX4_readItem_89 : decode cX4_readItem 89 = .ok (.invokevirtual 76, 3) := by decide +kernel
theorem dX4_readItem_92 : decode cX4_readItem 92 = .ok (.aload_n 1, 1) := by decide +kernel
theorem dX4_readItem_93 : decode cX4_readItem 93 = .ok (.invokevirtual 62, 3) := by decide +kernel
theorem dX4_readItem_96 : decode cX4_readItem 96 = .ok (.iconst 1, 1) := by decide +kernel
theorem dX4_readItem_97 : decode cX4_readItem 97 = .ok (.ireturn, 1) := by decide +kernel
theorem dX4_mayBegin_0 : decode cX4_mayBegin 0 = .ok (.iload_n 1, 1) := by decide +kernel
theorem dX4_mayBegin_1 : decode cX4_mayBegin 1 = .ok (.tableswitch 76 4 6 #[27, 45, 63], 27) := by decide +kernel
theorem dX4_mayBegin_28 : decode cX4_mayBegin 28 = .ok (.aload_n 0, 1) := by decide +kernel
theorem dX4_mayBegin_29 : decode cX4_mayBegin 29 = .ok (.getfield 21, 3) := by decide +kernel
theorem dX4_mayBegin_32 : decode cX4_mayBegin 32 = .ok (.getfield 37, 3) := by decide +kernel
theorem dX4_mayBegin_35 : decode cX4_mayBegin 35 = .ok (.bipush 6, 2) := by decide +kernel
theorem dX4_mayBegin_37 : decode cX4_mayBegin 37 = .ok (.if_icmp .ge 7, 3) := by decide +kernel
theorem dX4_mayBegin_40 : decode cX4_mayBegin 40 = .ok (.iconst 1, 1) := by decide +kernel
theorem dX4_mayBegin_41 : decode cX4_mayBegin 41 = .ok (.goto 4, 3) := by decide +kernel
theorem dX4_mayBegin_44 : decode cX4_mayBegin 44 = .ok (.iconst 0, 1) := by decide +kernel
theorem dX4_mayBegin_45 : decode cX4_mayBegin 45 = .ok (.ireturn, 1) := by decide +kernel
theorem dX4_mayBegin_46 : decode cX4_mayBegin 46 = .ok (.aload_n 0, 1) := by decide +kernel
theorem dX4_mayBegin_47 : decode cX4_mayBegin 47 = .ok (.getfield 12, 3) := by decide +kernel
theorem dX4_mayBegin_50 : decode cX4_mayBegin 50 = .ok (.getfield 33, 3) := by decide +kernel
theorem dX4_mayBegin_53 : decode cX4_mayBegin 53 = .ok (.bipush 8, 2) := by decide +kernel
theorem dX4_mayBegin_55 : decode cX4_mayBegin 55 = .ok (.if_icmp .ge 7, 3) := by decide +kernel
theorem dX4_mayBegin_58 : decode cX4_mayBegin 58 = .ok (.iconst 1, 1) := by decide +kernel
theorem dX4_mayBegin_59 : decode cX4_mayBegin 59 = .ok (.goto 4, 3) := by decide +kernel
theorem dX4_mayBegin_62 : decode cX4_mayBegin 62 = .ok (.iconst 0, 1) := by decide +kernel
theorem dX4_mayBegin_63 : decode cX4_mayBegin 63 = .ok (.ireturn, 1) := by decide +kernel
theorem dX4_mayBegin_64 : decode cX4_mayBegin 64 = .ok (.aload_n 0, 1) := by decide +kernel
theorem dX4_mayBegin_65 : decode cX4_mayBegin 65 = .ok (.getfield 29, 3) := by decide +kernel
theorem dX4_mayBegin_68 : decode cX4_mayBegin 68 = .ok (.ifCond .ne 7, 3) := by decide +kernel
theorem dX4_mayBegin_71 : decode cX4_mayBegin 71 = .ok (.iconst 1, 1) := by decide +kernel
theorem dX4_mayBegin_72 : decode cX4_mayBegin 72 = .ok (.goto 4, 3) := by decide +kernel
theorem dX4_mayBegin_75 : decode cX4_mayBegin 75 = .ok (.iconst 0, 1) := by decide +kernel
theorem dX4_mayBegin_76 : decode cX4_mayBegin 76 = .ok (.ireturn, 1) := by decide +kernel
theorem dX4_mayBegin_77 : decode cX4_mayBegin 77 = .ok (.iconst 0, 1) := by decide +kernel
theorem dX4_mayBegin_78 : decode cX4_mayBegin 78 = .ok (.ireturn, 1) := by decide +kernel
theorem dX4_numbersOf_0 : decode cX4_numbersOf 0 = .ok (.iload_n 0, 1) := by decide +kernel
theorem dX4_numbersOf_1 : decode cX4_numbersOf 1 = .ok (.tableswitch 34 4 6 #[27, 29, 32], 27) := by decide +kernel
theorem dX4_numbersOf_28 : decode cX4_numbersOf 28 = .ok (.iconst 5, 1) := by decide +kernel
theorem dX4_numbersOf_29 : decode cX4_numbersOf 29 = .ok (.ireturn, 1) := by decide +kernel
theorem dX4_numbersOf_30 : decode cX4_numbersOf 30 = .ok (.bipush 7, 2) := by decide +kernel
theorem dX4_numbersOf_32 : decode cX4_numbersOf 32 = .ok (.ireturn, 1) := by decide +kernel
theorem dX4_numbersOf_33 : decode cX4_numbersOf 33 = .ok (.iconst 1, 1) := by decide +kernel
theorem dX4_numbersOf_34 : decode cX4_numbersOf 34 = .ok (.ireturn, 1) := by decide +kernel
theorem dX4_numbersOf_35 : decode cX4_numbersOf 35 = .ok (.iconst 0, 1) := by decide +kernel
theorem dX4_numbersOf_36 : decode cX4_numbersOf 36 = .ok (.ireturn, 1) := by decide +kernel
theorem dX4_mostOf_0 : decode cX4_mostOf 0 = .ok (.iload_n 0, 1) := by decide +kernel
theorem dX4_mostOf_1 : decode cX4_mostOf 1 = .ok (.bipush 6, 2) := by decide +kernel
theorem dX4_mostOf_3 : decode cX4_mostOf 3 = .ok (.if_icmp .ne 5, 3) := by decide +kernel
theorem dX4_mostOf_6 : decode cX4_mostOf 6 = .ok (.iconst 5, 1) := by decide +kernel
theorem dX4_mostOf_7 : decode cX4_mostOf 7 = .ok (.ireturn, 1) := by decide +kernel
theorem dX4_mostOf_8 : decode cX4_mostOf 8 = .ok (.iload_n 1, 1) := by decide +kernel
theorem dX4_mostOf_9 : decode cX4_mostOf 9 = .ok (.iconst 5, 1) := by decide +kernel
theorem dX4_mostOf_10 : decode cX4_mostOf 10 = .ok (.if_icmp .ge 6, 3) := by decide +kernel
theorem dX4_mostOf_13 : decode cX4_mostOf 13 = .ok (.bipush 9, 2) := by decide +kernel
theorem dX4_mostOf_15 : decode cX4_mostOf 15 = .ok (.ireturn, 1) := by decide +kernel
theorem dX4_mostOf_16 : decode cX4_mostOf 16 = .ok (.iload_n 1, 1) := by decide +kernel
theorem dX4_mostOf_17 : decode cX4_mostOf 17 = .ok (.iconst 5, 1) := by decide +kernel
theorem dX4_mostOf_18 : decode cX4_mostOf 18 = .ok (.if_icmp .ne 8, 3) := by decide +kernel
theorem dX4_mostOf_21 : decode cX4_mostOf 21 = .ok (.bipush 7, 2) := by decide +kernel
theorem dX4_mostOf_23 : decode cX4_mostOf 23 = .ok (.goto 5, 3) := by decide +kernel
theorem dX4_mostOf_26 : decode cX4_mostOf 26 = .ok (.bipush 7, 2) := by decide +kernel
theorem dX4_mostOf_28 : decode cX4_mostOf 28 = .ok (.ireturn, 1) := by decide +kernel
theorem dX4_draft_0 : decode cX4_draft 0 = .ok (.iload_n 1, 1) := by decide +kernel
theorem dX4_draft_1 : decode cX4_draft 1 = .ok (.iconst 4, 1) := by decide +kernel
theorem dX4_draft_2 : decode cX4_draft 2 = .ok (.if_icmp .ne 17, 3) := by decide +kernel
theorem dX4_draft_5 : decode cX4_draft 5 = .ok (.aload_n 0, 1) := by decide +kernel
theorem dX4_draft_6 : decode cX4_draft 6 = .ok (.getfield 21, 3) := by decide +kernel
theorem dX4_draft_9 : decode cX4_draft 9 = .ok (.aload_n 0, 1) := by decide +kernel
theorem dX4_draft_10 : decode cX4_draft 10 = .ok (.getfield 25, 3) := by decide +kernel
theorem dX4_draft_13 : decode cX4_draft 13 = .ok (.invokevirtual 80, 3) := by decide +kernel
theorem dX4_draft_16 : decode cX4_draft 16 = .ok (.goto 40, 3) := by decide +kernel
theorem dX4_draft_19 : decode cX4_draft 19 = .ok (.iload_n 1, 1) := by decide +kernel
theorem dX4_draft_20 : decode cX4_draft 20 = .ok (.iconst 5, 1) := by decide +kernel
theorem dX4_draft_21 : decode cX4_draft 21 = .ok (.if_icmp .ne 17, 3) := by decide +kernel
theorem dX4_draft_24 : decode cX4_draft 24 = .ok (.aload_n 0, 1) := by decide +kernel
theorem dX4_draft_25 : decode cX4_draft 25 = .ok (.getfield 12, 3) := by decide +kernel
theorem dX4_draft_28 : decode cX4_draft 28 = .ok (.aload_n 0, 1) := by decide +kernel
theorem dX4_draft_29 : decode cX4_draft 29 = .ok (.getfield 25, 3) := by decide +kernel
theorem dX4_draft_32 : decode cX4_draft 32 = .ok (.invokevirtual 84, 3) := by decide +kernel
theorem dX4_draft_35 : decode cX4_draft 35 = .ok (.goto 21, 3) := by decide +kernel
theorem dX4_draft_38 : decode cX4_draft 38 = .ok (.aload_n 0, 1) := by decide +kernel
theorem dX4_draft_39 : decode cX4_draft 39 = .ok (.getfield 21, 3) := by decide +kernel
theorem dX4_draft_42 : decode cX4_draft 42 = .ok (.aload_n 0, 1) := by decide +kernel
theorem dX4_draft_43 : decode cX4_draft 43 = .ok (.getfield 25, 3) := by decide +kernel
theorem dX4_draft_46 : decode cX4_draft 46 = .ok (.iconst 0, 1) := by decide +kernel
theorem dX4_draft_47 : decode cX4_draft 47 = .ok (.iaload, 1) := by decide +kernel
theorem dX4_draft_48 : decode cX4_draft 48 = .ok (.putfield 43, 3) := by decide +kernel
theorem dX4_draft_51 : decode cX4_draft 51 = .ok (.aload_n 0, 1) := by decide +kernel
theorem dX4_draft_52 : decode cX4_draft 52 = .ok (.iconst 1, 1) := by decide +kernel
theorem dX4_draft_53 : decode cX4_draft 53 = .ok (.putfield 29, 3) := by decide +kernel
theorem dX4_draft_56 : decode cX4_draft 56 = .ok (.return_, 1) := by decide +kernel
end
section
theorem dX5_init_0 : decode cX5_init 0 = .ok (.aload_n 0, 1) := by decide +kernel
theorem dX5_init_1 : decode cX5_init 1 = .ok (.invokespecial 3, 3) := by decide +kernel
theorem dX5_init_4 : decode cX5_init 4 = .ok (.aload_n 0, 1) := by decide +kernel
theorem dX5_init_5 : decode cX5_init 5 = .ok (.sipush 300, 3) := by decide +kernel
theorem dX5_init_8 : decode cX5_init 8 = .ok (.newarray .int, 2) := by decide +kernel
theorem dX5_init_10 : decode cX5_init 10 = .ok (.putfield 9, 3) := by decide +kernel
theorem dX5_init_13 : decode cX5_init 13 = .ok (.aload_n 0, 1) := by decide +kernel
theorem dX5_init_14 : decode cX5_init 14 = .ok (.iconst 0, 1) := by decide +kernel
theorem dX5_init_15 : decode cX5_init 15 = .ok (.putfield 15, 3) := by decide +kernel
theorem dX5_init_18 : decode cX5_init 18 = .ok (.return_, 1) := by decide +kernel
theorem dX5_append_0 : decode cX5_append 0 = .ok (.aload_n 0, 1) := by decide +kernel
theorem dX5_append_1 : decode cX5_append 1 = .ok (.getfield 15, 3) := by decide +kernel
theorem dX5_append_4 : decode cX5_append 4 = .ok (.sipush 300, 3) := by decide +kernel
theorem dX5_append_7 : decode cX5_append 7 = .ok (.if_icmp .lt 4, 3) := by decide +kernel
theorem dX5_append_10 : decode cX5_append 10 = .ok (.return_, 1) := by decide +kernel
theorem dX5_append_11 : decode cX5_append 11 = .ok (.aload_n 0, 1) := by decide +kernel
theorem dX5_append_12 : decode cX5_append 12 = .ok (.getfield 9, 3) := by decide +kernel
theorem dX5_append_15 : decode cX5_append 15 = .ok (.aload_n 0, 1) := by decide +kernel
theorem dX5_append_16 : decode cX5_append 16 = .ok (.getfield 15, 3) := by decide +kernel
theorem dX5_append_19 : decode cX5_append 19 = .ok (.iload_n 1, 1) := by decide +kernel
theorem dX5_append_20 : decode cX5_append 20 = .ok (.iastore, 1) := by decide +kernel
theorem dX5_append_21 : decode cX5_append 21 = .ok (.aload_n 0, 1) := by decide +kernel
theorem dX5_append_22 : decode cX5_append 22 = .ok (.dup, 1) := by decide +kernel
theorem dX5_append_23 : decode cX5_append 23 = .ok (.getfield 15, 3) := by decide +kernel
theorem dX5_append_26 : decode cX5_append 26 = .ok (.iconst 1, 1) := by decide +kernel
theorem dX5_append_27 : decode cX5_append 27 = .ok (.iadd, 1) := by decide +kernel
theorem dX5_append_28 : decode cX5_append 28 = .ok (.putfield 15, 3) := by decide +kernel
theorem dX5_append_31 : decode cX5_append 31 = .ok (.return_, 1) := by decide +kernel
theorem dX5_rewind_0 : decode cX5_rewind 0 = .ok (.aload_n 0, 1) := by decide +kernel
theorem dX5_rewind_1 : decode cX5_rewind 1 = .ok (.iconst 0, 1) := by decide +kernel
theorem dX5_rewind_2 : decode cX5_rewind 2 = .ok (.putfield 19, 3) := by decide +kernel
theorem dX5_rewind_5 : decode cX5_rewind 5 = .ok (.aload_n 0, 1) := by decide +kernel
theorem dX5_rewind_6 : decode cX5_rewind 6 = .ok (.invokevirtual 22, 3) := by decide +kernel
theorem dX5_rewind_9 : decode cX5_rewind 9 = .ok (.return_, 1) := by decide +kernel
theorem dX5_step_0 : decode cX5_step 0 = .ok (.aload_n 0, 1) := by decide +kernel
theorem dX5_step_1 : decode cX5_step 1 = .ok (.getfield 19, 3) := by decide +kernel
theorem dX5_step_4 : decode cX5_step 4 = .ok (.aload_n 0, 1) := by decide +kernel
theorem dX5_step_5 : decode cX5_step 5 = .ok (.getfield 15, 3) := by decide +kernel
theorem dX5_step_8 : decode cX5_step 8 = .ok (.if_icmp .ge 30, 3) := by decide +kernel
theorem dX5_step_11 : decode cX5_step 11 = .ok (.aload_n 0, 1) := by decide +kernel
theorem dX5_step_12 : decode cX5_step 12 = .ok (.getfield 9, 3) := by decide +kernel
theorem dX5_step_15 : decode cX5_step 15 = .ok (.aload_n 0, 1) := by decide +kernel
theorem dX5_step_16 : decode cX5_step 16 = .ok (.getfield 19, 3) := by decide +kernel
theorem dX5_step_19 : decode cX5_step 19 = .ok (.iaload, 1) := by decide +kernel
theorem dX5_step_20 : decode cX5_step 20 = .ok (.bipush 32, 2) := by decide +kernel
theorem dX5_step_22 : decode cX5_step 22 = .ok (.if_icmp .ne 16, 3) := by decide +kernel
theorem dX5_step_25 : decode cX5_step 25 = .ok (.aload_n 0, 1) := by decide +kernel
theorem dX5_step_26 : decode cX5_step 26 = .ok (.dup, 1) := by decide +kernel
theorem dX5_step_27 : decode cX5_step 27 = .ok (.getfield 19, 3) := by decide +kernel
theorem dX5_step_30 : decode cX5_step 30 = .ok (.iconst 1, 1) := by decide +kernel
theorem dX5_step_31 : decode cX5_step 31 = .ok (.iadd, 1) := by decide +kernel
theorem dX5_step_32 : decode cX5_step 32 = .ok (.putfield 19, 3) := by decide +kernel
theorem dX5_step_35 : decode cX5_step 35 = .ok (.goto (-35), 3) := by decide +kernel
theorem dX5_step_38 : decode cX5_step 38 = .ok (.aload_n 0, 1) := by decide +kernel
theorem dX5_step_39 : decode cX5_step 39 = .ok (.aload_n 0, 1) := by decide +kernel
theorem dX5_step_40 : decode cX5_step 40 = .ok (.getfield 19, 3) := by decide +kernel
theorem dX5_step_43 : decode cX5_step 43 = .ok (.putfield 25, 3) := by decide +kernel
theorem dX5_step_46 : decode cX5_step 46 = .ok (.aload_n 0, 1) := by decide +kernel
theorem dX5_step_47 : decode cX5_step 47 = .ok (.iconst 0, 1) := by decide +kernel
theorem dX5_step_48 : decode cX5_step 48 = .ok (.putfield 28, 3) := by decide +kernel
theorem dX5_step_51 : decode cX5_step 51 = .ok (.aload_n 0, 1) := by decide +kernel
theorem dX5_step_52 : decode cX5_step 52 = .ok (.getfield 19, 3) := by decide +kernel
theorem dX5_step_55 : decode cX5_step 55 = .ok (.aload_n 0, 1) := by decide +kernel
theorem dX5_step_56 : decode cX5_step 56 = .ok (.getfield 15, 3) := by decide +kernel
theorem dX5_step_59 : decode cX5_step 59 = .ok (.if_icmp .lt 11, 3) := by decide +kernel
theorem dX5_step_62 : decode cX5_step 62 = .ok (.aload_n 0, 1) := by decide +kernel
theorem dX5_step_63 : decode cX5_step 63 = .ok (.iconst 0, 1) := by decide +kernel
theorem dX5_step_64 : decode cX5_step 64 = .ok (.putfield 31, 3) := by decide +kernel
theorem dX5_step_67 : decode cX5_step 67 = .ok (.goto 88, 3) := by decide +kernel
theorem dX5_step_70 : decode cX5_step 70 = .ok (.aload_n 0, 1) := by decide +kernel
theorem dX5_step_71 : decode cX5_step 71 = .ok (.getfield 9, 3) := by decide +kernel
theorem dX5_step_74 : decode cX5_step 74 = .ok (.aload_n 0, 1) := by decide +kernel
theorem dX5_step_75 : decode cX5_step 75 = .ok (.getfield 19, 3) := by decide +kernel
theorem dX5_step_78 : decode cX5_step 78 = .ok (.iaload, 1) := by decide +kernel
theorem dX5_step_79 : decode cX5_step 79 = .ok (.invokestatic 34, 3) := by decide +kernel
theorem dX5_step_82 : decode cX5_step 82 = .ok (.ifCond .eq 14, 3) := by decide +kernel
theorem dX5_step_85 : decode cX5_step 85 = .ok (.aload_n 0, 1) := by decide +kernel
theorem dX5_step_86 : decode cX5_step 86 = .ok (.aload_n 0, 1) := by decide +kernel
theorem dX5_step_87 : decode cX5_step 87 = .ok (.invokevirtual 38, 3) := by decide +kernel
theorem dX5_step_90 : decode cX5_step 90 = .ok (.putfield 31, 3) := by decide +kernel
theorem dX5_step_93 : decode cX5_step 93 = .ok (.goto 62, 3) := by decide +kernel
theorem dX5_step_96 : decode cX5_step 96 = .ok (.aload_n 0, 1) := by decide +kernel
theorem dX5_step_97 : decode cX5_step 97 = .ok (.getfield 9, 3) := by decide +kernel
theorem dX5_step_100 : decode cX5_step 100 = .ok (.aload_n 0, 1) := by decide +kernel
theorem dX5_step_101 : decode cX5_step 101 = .ok (.getfield 19, 3) := by decide +kernel
theorem dX5_step_104 : decode cX5_step 104 = .ok (.iaload, 1) := by decide +kernel
theorem dX5_step_105 : decode cX5_step 105 = .ok (.invokestatic 42, 3) := by decide +kernel
theorem dX5_step_108 : decode cX5_step 108 = .ok (.ifCond .eq 14, 3) := by decide +kernel
theorem dX5_step_111 : decode cX5_step 111 = .ok (.aload_n 0, 1) := by decide +kernel
theorem dX5_step_112 : decode cX5_step 112 = .ok (.aload_n 0, 1) := by decide +kernel
theorem dX5_step_113 : decode cX5_step 113 = .ok (.invokevirtual 45, 3) := by decide +kernel
theorem dX5_step_116 : decode cX5_step 116 = .ok (.putfield 31, 3) := by decide +kernel
theorem dX5_step_119 : decode cX5_step 119 = .ok (.goto 36, 3) := by decide +kernel
theorem dX5_step_122 : decode cX5_step 122 = .ok (.aload_n 0, 1) := by decide +kernel
theorem dX5_step_123 : decode cX5_step 123 = .ok (.aload_n 0, 1) := by decide +kernel
theorem dX5_step_124 : decode cX5_step 124 = .ok (.getfield 9, 3) := by decide +kernel
theorem dX5_step_127 : decode cX5_step 127 = .ok (.aload_n 0, 1) := by decide +kernel
theorem dX5_step_128 : decode cX5_step 128 = .ok (.getfield 19, 3) := by decide +kernel
theorem dX5_step_131 : decode cX5_step 131 = .ok (.iaload, 1) := by decide +kernel
theorem dX5_step_132 : decode cX5_step 132 = .ok (.bipush 59, 2) := by decide +kernel
theorem dX5_step_134 : decode cX5_step 134 = .ok (.if_icmp .ne 7, 3) := by decide +kernel
theorem dX5_step_137 : decode cX5_step 137 = .ok (.iconst 3, 1) := by decide +kernel
theorem dX5_step_138 : decode cX5_step 138 = .ok (.goto 4, 3) := by decide +kernel
theorem dX5_step_141 : decode cX5_step 141 = .ok (.iconst 1, 1) := by decide +kernel
theorem dX5_step_142 : decode cX5_step 142 = .ok (.putfield 31, 3) := by decide +kernel
theorem dX5_step_145 : decode cX5_step 145 = .ok (.aload_n 0, 1) := by decide +kernel
theorem dX5_step_146 : decode cX5_step 146 = .ok (.dup, 1) := by decide +kernel
theorem dX5_step_147 : decode cX5_step 147 = .ok (.getfield 19, 3) := by decide +kernel
theorem dX5_step_150 : decode cX5_step 150 = .ok (.iconst 1, 1) := by decide +kernel
theorem dX5_step_151 : decode cX5_step 151 = .ok (.iadd, 1) := by decide +kernel
theorem dX5_step_152 : decode cX5_step 152 = .ok (.putfield 19, 3) := by decide +kernel
theorem dX5_step_155 : decode cX5_step 155 = .ok (.return_, 1) := by decide +kernel
theorem dX5_readNumber_0 : decode cX5_readNumber 0 = .ok (.aload_n 0, 1) := by decide +kernel
theorem dX5_readNumber_1 : decode cX5_readNumber 1 = .ok (.getfield 9, 3) := by decide +kernel
theorem dX5_readNumber_4 : decode cX5_readNumber 4 = .ok (.aload_n 0, 1) := by decide +kernel
theorem dX5_readNumber_5 : decode cX5_readNumber 5 = .ok (.getfield 25, 3) := by decide +kernel
theorem dX5_readNumber_8 : decode cX5_readNumber 8 = .ok (.iaload, 1) := by decide +kernel
theorem dX5_readNumber_9 : decode cX5_readNumber 9 = .ok (.bipush 48, 2) := by decide +kernel
theorem dX5_readNumber_11 : decode cX5_readNumber 11 = .ok (.if_icmp .ne 7, 3) := by decide +kernel
theorem dX5_readNumber_14 : decode cX5_readNumber 14 = .ok (.iconst 1, 1) := by decide +kernel
theorem dX5_readNumber_15 : decode cX5_readNumber 15 = .ok (.goto 4, 3) := by decide +kernel
theorem dX5_readNumber_18 : decode cX5_readNumber 18 = .ok (.iconst 0, 1) := by decide +kernel
theorem dX5_readNumber_19 : decode cX5_readNumber 19 = .ok (.istore_n 1, 1) := by decide +kernel
theorem dX5_readNumber_20 : decode cX5_readNumber 20 = .ok (.aload_n 0, 1) := by decide +kernel
theorem dX5_readNumber_21 : decode cX5_readNumber 21 = .ok (.getfield 19, 3) := by decide +kernel
theorem dX5_readNumber_24 : decode cX5_readNumber 24 = .ok (.aload_n 0, 1) := by decide +kernel
theorem dX5_readNumber_25 : decode cX5_readNumber 25 = .ok (.getfield 15, 3) := by decide +kernel
theorem dX5_readNumber_28 : decode cX5_readNumber 28 = .ok (.if_icmp .ge 68, 3) := by decide +kernel
theorem dX5_readNumber_31 : decode cX5_readNumber 31 = .ok (.aload_n 0, 1) := by decide +kernel
theorem dX5_readNumber_32 : decode cX5_readNumber 32 = .ok (.getfield 9, 3) := by decide +kernel
theorem dX5_readNumber_35 : decode cX5_readNumber 35 = .ok (.aload_n 0, 1) := by decide +kernel
theorem dX5_readNumber_36 : decode cX5_readNumber 36 = .ok (.getfield 19, 3) := by decide +kernel
theorem dX5_readNumber_39 : decode cX5_readNumber 39 = .ok (.iaload, 1) := by decide +kernel
theorem dX5_readNumber_40 : decode cX5_readNumber 40 = .ok (.invokestatic 34, 3) := by decide +kernel
theorem dX5_readNumber_43 : decode cX5_readNumber 43 = .ok (.ifCond .eq 53, 3) := by decide +kernel
theorem dX5_readNumber_46 : decode cX5_readNumber 46 = .ok (.aload_n 0, 1) := by decide +kernel
theorem dX5_readNumber_47 : decode cX5_readNumber 47 = .ok (.getfield 19, 3) := by decide +kernel
theorem dX5_readNumber_50 : decode cX5_readNumber 50 = .ok (.aload_n 0, 1) := by decide +kernel
theorem dX5_readNumber_51 : decode cX5_readNumber 51 = .ok (.getfield 25, 3) := by decide +kernel
theorem dX5_readNumber_54 : decode cX5_readNumber 54 = .ok (.isub, 1) := by decide +kernel
theorem dX5_readNumber_55 : decode cX5_readNumber 55 = .ok (.iconst 2, 1) := by decide +kernel
theorem dX5_readNumber_56 : decode cX5_readNumber 56 = .ok (.if_icmp .ge 27, 3) := by decide +kernel
theorem dX5_readNumber_59 : decode cX5_readNumber 59 = .ok (.aload_n 0, 1) := by decide +kernel
theorem dX5_readNumber_60 : decode cX5_readNumber 60 = .ok (.aload_n 0, 1) := by decide +kernel
theorem dX5_readNumber_61 : decode cX5_readNumber 61 = .ok (.getfield 28, 3) := by decide +kernel
theorem dX5_readNumber_64 : decode cX5_readNumber 64 = .ok (.bipush 10, 2) := by decide +kernel
theorem dX5_readNumber_66 : decode cX5_readNumber 66 = .ok (.imul, 1) := by decide +kernel
theorem dX5_readNumber_67 : decode cX5_readNumber 67 = .ok (.aload_n 0, 1) := by decide +kernel
theorem dX5_readNumber_68 : decode cX5_readNumber 68 = .ok (.getfield 9, 3) := by decide +kernel
theorem dX5_readNumber_71 : decode cX5_readNumber 71 = .ok (.aload_n 0, 1) := by decide +kernel
theorem dX5_readNumber_72 : decode cX5_readNumber 72 = .ok (.getfield 19, 3) := by decide +kernel
theorem dX5_readNumber_75 : decode cX5_readNumber 75 = .ok (.iaload, 1) := by decide +kernel
theorem dX5_readNumber_76 : decode cX5_readNumber 76 = .ok (.iadd, 1) := by decide +kernel
theorem dX5_readNumber_77 : decode cX5_readNumber 77 = .ok (.bipush 48, 2) := by decide +kernel
theorem dX5_readNumber_79 : decode cX5_readNumber 79 = .ok (.isub, 1) := by decide +kernel
theorem dX5_readNumber_80 : decode cX5_readNumber 80 = .ok (.putfield 28, 3) := by decide +kernel
theorem dX5_readNumber_83 : decode cX5_readNumber 83 = .ok (.aload_n 0, 1) := by decide +kernel
theorem dX5_readNumber_84 : decode cX5_readNumber 84 = .ok (.dup, 1) := by decide +kernel
theorem dX5_readNumber_85 : decode cX5_readNumber 85 = .ok (.getfield 19, 3) := by decide +kernel
theorem dX5_readNumber_88 : decode cX5_readNumber 88 = .ok (.iconst 1, 1) := by decide +kernel
theorem dX5_readNumber_89 : decode cX5_readNumber 89 = .ok (.iadd, 1) := by decide +kernel
theorem dX5_readNumber_90 : decode cX5_readNumber 90 = .ok (.putfield 19, 3) := by decide +kernel
theorem dX5_readNumber_93 : decode cX5_readNumber 93 = .ok (.goto (-73), 3) := by decide +kernel
theorem dX5_readNumber_96 : decode cX5_readNumber 96 = .ok (.aload_n 0, 1) := by decide +kernel
theorem dX5_readNumber_97 : decode cX5_readNumber 97 = .ok (.getfield 19, 3) := by decide +kernel
theorem dX5_readNumber_100 : decode cX5_readNumber 100 = .ok (.aload_n 0, 1) := by decide +kernel
theorem dX5_readNumber_101 : decode cX5_readNumber 101 = .ok (.getfield 25, 3) := by decide +kernel
theorem dX5_readNumber_104 : decode cX5_readNumber 104 = .ok (.isub, 1) := by decide +kernel
theorem dX5_readNumber_105 : decode cX5_readNumber 105 = .ok (.istore_n 2, 1) := by decide +kernel
theorem dX5_readNumber_106 : decode cX5_readNumber 106 = .ok (.iload_n 2, 1) := by decide +kernel
theorem dX5_readNumber_107 : decode cX5_readNumber 107 = .ok (.iconst 2, 1) := by decide +kernel
theorem dX5_readNumber_108 : decode cX5_readNumber 108 = .ok (.if_icmp .gt 12, 3) := by decide +kernel
theorem dX5_readNumber_111 : decode cX5_readNumber 111 = .ok (.iload_n 2, 1) := by decide +kernel
theorem dX5_readNumber_112 : decode cX5_readNumber 112 = .ok (.iconst 1, 1) := by decide +kernel
theorem dX5_readNumber_113 : decode cX5_readNumber 113 = .ok (.if_icmp .le 11, 3) := by decide +kernel
theorem dX5_readNumber_116 : decode cX5_readNumber 116 = .ok (.iload_n 1, 1) := by decide +kernel
theorem dX5_readNumber_117 : decode cX5_readNumber 117 = .ok (.ifCond .eq 7, 3) := by decide +kernel
theorem dX5_readNumber_120 : decode cX5_readNumber 120 = .ok (.iconst 1, 1) := by decide +kernel
theorem dX5_readNumber_121 : decode cX5_readNumber 121 = .ok (.goto 4, 3) := by decide +kernel
theorem dX5_readNumber_124 : decode cX5_readNumber 124 = .ok (.iconst 2, 1) := by decide +kernel
theorem dX5_readNumber_125 : decode cX5_readNumber 125 = .ok (.ireturn, 1) := by decide +kernel
theorem dX5_readName_0 : decode cX5_readName 0 = .ok (.aload_n 0, 1) := by decide +kernel
theorem dX5_readName_1 : decode cX5_readName 1 = .ok (.getfield 19, 3) := by decide +kernel
theorem dX5_readName_4 : decode cX5_readName 4 = .ok (.aload_n 0, 1) := by decide +kernel
theorem dX5_readName_5 : decode cX5_readName 5 = .ok (.getfield 15, 3) := by decide +kernel
theorem dX5_readName_8 : decode cX5_readName 8 = .ok (.if_icmp .ge 31, 3) := by decide +kernel
theorem dX5_readName_11 : decode cX5_readName 11 = .ok (.aload_n 0, 1) := by decide +kernel
theorem dX5_readName_12 : decode cX5_readName 12 = .ok (.getfield 9, 3) := by decide +kernel
theorem dX5_readName_15 : decode cX5_readName 15 = .ok (.aload_n 0, 1) := by decide +kernel
theorem dX5_readName_16 : decode cX5_readName 16 = .ok (.getfield 19, 3) := by decide +kernel
theorem dX5_readName_19 : decode cX5_readName 19 = .ok (.iaload, 1) := by decide +kernel
theorem dX5_readName_20 : decode cX5_readName 20 = .ok (.invokestatic 42, 3) := by decide +kernel
theorem dX5_readName_23 : decode cX5_readName 23 = .ok (.ifCond .eq 16, 3) := by decide +kernel
theorem dX5_readName_26 : decode cX5_readName 26 = .ok (.aload_n 0, 1) := by decide +kernel
theorem dX5_readName_27 : decode cX5_readName 27 = .ok (.dup, 1) := by decide +kernel
theorem dX5_readName_28 : decode cX5_readName 28 = .ok (.getfield 19, 3) := by decide +kernel
theorem dX5_readName_31 : decode cX5_readName 31 = .ok (.iconst 1, 1) := by decide +kernel
theorem dX5_readName_32 : decode cX5_readName 32 = .ok (.iadd, 1) := by decide +kernel
theorem dX5_readName_33 : decode cX5_readName 33 = .ok (.putfield 19, 3) := by decide +kernel
theorem dX5_readName_36 : decode cX5_readName 36 = .ok (.goto (-36), 3) := by decide +kernel
theorem dX5_readName_39 : decode cX5_readName 39 = .ok (.aload_n 0, 1) := by decide +kernel
theorem dX5_readName_40 : decode cX5_readName 40 = .ok (.ldc 48, 2) := by decide +kernel
theorem dX5_readName_42 : decode cX5_readName 42 = .ok (.invokevirtual 50, 3) := by decide +kernel
theorem dX5_readName_45 : decode cX5_readName 45 = .ok (.ifCond .eq 5, 3) := by decide +kernel
theorem dX5_readName_48 : decode cX5_readName 48 = .ok (.iconst 4, 1) := by decide +kernel
theorem dX5_readName_49 : decode cX5_readName 49 = .ok (.ireturn, 1) := by decide +kernel
theorem dX5_readName_50 : decode cX5_readName 50 = .ok (.aload_n 0, 1) := by decide +kernel
theorem dX5_readName_51 : decode cX5_readName 51 = .ok (.ldc 54, 2) := by decide +kernel
theorem dX5_readName_53 : decode cX5_readName 53 = .ok (.invokevirtual 50, 3) := by decide +kernel
theorem dX5_readName_56 : decode cX5_readName 56 = .ok (.ifCond .eq 5, 3) := by decide +kernel
theorem dX5_readName_59 : decode cX5_readName 59 = .ok (.iconst 5, 1) := by decide +kernel
theorem dX5_readName_60 : decode cX5_readName 60 = .ok (.ireturn, 1) := by decide +kernel
theorem dX5_readName_61 : decode cX5_readName 61 = .ok (.aload_n 0, 1) := by decide +kernel
theorem dX5_readName_62 : decode cX5_readName 62 = .ok (.ldc 56, 2) := by decide +kernel
theorem dX5_readName_64 : decode cX5_readName 64 = .ok (.invokevirtual 50, 3) := by decide +kernel
theorem dX5_readName_67 : decode cX5_readName 67 = .ok (.ifCond .eq 8, 3) := by decide +kernel
theorem dX5_readName_70 : decode cX5_readName 70 = .ok (.bipush 6, 2) := by decide +kernel
theorem dX5_readName_72 : decode cX5_readName 72 = .ok (.goto 4, 3) := by decide +kernel
theorem dX5_readName_75 : decode cX5_readName 75 = .ok (.iconst 1, 1) := by decide +kernel
theorem dX5_readName_76 : decode cX5_readName 76 = .ok (.ireturn, 1) := by decide +kernel
theorem dX5_spells_0 : decode cX5_spells 0 = .ok (.aload_n 0, 1) := by decide +kernel
theorem dX5_spells_1 : decode cX5_spells 1 = .ok (.getfield 19, 3) := by decide +kernel
theorem dX5_spells_4 : decode cX5_spells 4 = .ok (.aload_n 0, 1) := by decide +kernel
theorem dX5_spells_5 : decode cX5_spells 5 = .ok (.getfield 25, 3) := by decide +kernel
theorem dX5_spells_8 : decode cX5_spells 8 = .ok (.isub, 1) := by decide +kernel
theorem dX5_spells_9 : decode cX5_spells 9 = .ok (.aload_n 1, 1) := by decide +kernel
theorem dX5_spells_10 : decode cX5_spells 10 = .ok (.invokevirtual 58, 3) := by decide +kernel
theorem dX5_spells_13 : decode cX5_spells 13 = .ok (.if_icmp .eq 5, 3) := by decide +kernel
theorem dX5_spells_16 : decode cX5_spells 16 = .ok (.iconst 0, 1) := by decide +kernel
theorem dX5_spells_17 : decode cX5_spells 17 = .ok (.ireturn, 1) := by decide +kernel
theorem dX5_spells_18 : decode cX5_spells 18 = .ok (.iconst 0, 1) := by decide +kernel
theorem dX5_spells_19 : decode cX5_spells 19 = .ok (.istore_n 2, 1) := by decide +kernel
theorem dX5_spells_20 : decode cX5_spells 20 = .ok (.iload_n 2, 1) := by decide +kernel
theorem dX5_spells_21 : decode cX5_spells 21 = .ok (.aload_n 1, 1) := by decide +kernel
theorem dX5_spells_22 : decode cX5_spells 22 = .ok (.invokevirtual 58, 3) := by decide +kernel
theorem dX5_spells_25 : decode cX5_spells 25 = .ok (.if_icmp .ge 30, 3) := by decide +kernel
theorem dX5_spells_28 : decode cX5_spells 28 = .ok (.aload_n 0, 1) := by decide +kernel
theorem dX5_spells_29 : decode cX5_spells 29 = .ok (.getfield 9, 3) := by decide +kernel
theorem dX5_spells_32 : decode cX5_spells 32 = .ok (.aload_n 0, 1) := by decide +kernel
theorem dX5_spells_33 : decode cX5_spells 33 = .ok (.getfield 25, 3) := by decide +kernel
theorem dX5_spells_36 : decode cX5_spells 36 = .ok (.iload_n 2, 1) := by decide +kernel
theorem dX5_spells_37 : decode cX5_spells 37 = .ok (.iadd, 1) := by decide +kernel
theorem dX5_spells_38 : decode cX5_spells 38 = .ok (.iaload, 1) := by decide +kernel
theorem dX5_spells_39 : decode cX5_spells 39 = .ok (.aload_n 1, 1) := by decide +kernel
theorem dX5_spells_40 : decode cX5_spells 40 = .ok (.iload_n 2, 1) := by decide +kernel
theorem dX5_spells_41 : decode cX5_spells 41 = .ok (.invokevirtual 62, 3) := by decide +kernel
theorem dX5_spells_44 : decode cX5_spells 44 = .ok (.if_icmp .eq 5, 3) := by decide +kernel
theorem dX5_spells_47 : decode cX5_spells 47 = .ok (.iconst 0, 1) := by decide +kernel
theorem dX5_spells_48 : decode cX5_spells 48 = .ok (.ireturn, 1) := by decide +kernel
theorem dX5_spells_49 : decode cX5_spells 49 = .ok (.iinc 2 1, 3) := by decide +kernel
theorem dX5_spells_52 : decode cX5_spells 52 = .ok (.goto (-32), 3) := by decide +kernel
theorem dX5_spells_55 : decode cX5_spells 55 = .ok (.iconst 1, 1) := by decide +kernel
theorem dX5_spells_56 : decode cX5_spells 56 = .ok (.ireturn, 1) := by decide +kernel
theorem dX5_isDigit_0 : decode cX5_isDigit 0 = .ok (.iload_n 0, 1) := by decide +kernel
theorem dX5_isDigit_1 : decode cX5_isDigit 1 = .ok (.bipush 48, 2) := by decide +kernel
theorem dX5_isDigit_3 : decode cX5_isDigit 3 = .ok (.if_icmp .lt 13, 3) := by decide +kernel
theorem dX5_isDigit_6 : decode cX5_isDigit 6 = .ok (.iload_n 0, 1) := by decide +kernel
theorem dX5_isDigit_7 : decode cX5_isDigit 7 = .ok (.bipush 57, 2) := by decide +kernel
theorem dX5_isDigit_9 : decode cX5_isDigit 9 = .ok (.if_icmp .gt 7, 3) := by decide +kernel
theorem dX5_isDigit_12 : decode cX5_isDigit 12 = .ok (.iconst 1, 1) := by decide +kernel
theorem dX5_isDigit_13 : decode cX5_isDigit 13 = .ok (.goto 4, 3) := by decide +kernel
theorem dX5_isDigit_16 : decode cX5_isDigit 16 = .ok (.iconst 0, 1) := by decide +kernel
theorem dX5_isDigit_17 : decode cX5_isDigit 17 = .ok (.ireturn, 1) := by decide +kernel
theorem dX5_isLetter_0 : decode cX5_isLetter 0 = .ok (.iload_n 0, 1) := by decide +kernel
theorem dX5_isLetter_1 : decode cX5_isLetter 1 = .ok (.bipush 97, 2) := by decide +kernel
theorem dX5_isLetter_3 : decode cX5_isLetter 3 = .ok (.if_icmp .lt 13, 3) := by decide +kernel
theorem dX5_isLetter_6 : decode cX5_isLetter 6 = .ok (.iload_n 0, 1) := by decide +kernel
theorem dX5_isLetter_7 : decode cX5_isLetter 7 = .ok (.bipush 122, 2) := by decide +kernel
theorem dX5_isLetter_9 : decode cX5_isLetter 9 = .ok (.if_icmp .gt 7, 3) := by decide +kernel
theorem dX5_isLetter_12 : decode cX5_isLetter 12 = .ok (.iconst 1, 1) := by decide +kernel
theorem dX5_isLetter_13 : decode cX5_isLetter 13 = .ok (.goto 4, 3) := by decide +kernel
theorem dX5_isLetter_16 : decode cX5_isLetter 16 = .ok (.iconst 0, 1) := by decide +kernel
theorem dX5_isLetter_17 : decode cX5_isLetter 17 = .ok (.ireturn, 1) := by decide +kernel
end
section
theorem dX6_init_0 : decode cX6_init 0 = .ok (.aload_n 0, 1) := by decide +kernel
theorem dX6_init_1 : decode cX6_init 1 = .ok (.invokespecial 1, 3) := by decide +kernel
theorem dX6_init_4 : decode cX6_init 4 = .ok (.aload_n 0, 1) := by decide +kernel
theorem dX6_init_5 : decode cX6_init 5 = .ok (.new 7, 3) := by decide +kernel
theorem dX6_init_8 : decode cX6_init 8 = .ok (.dup, 1) := by decide +kernel
theorem dX6_init_9 : decode cX6_init 9 = .ok (.invokespecial 9, 3) := by decide +kernel
theorem dX6_init_12 : decode cX6_init 12 = .ok (.putfield 10, 3) := by decide +kernel
theorem dX6_init_15 : decode cX6_init 15 = .ok (.aload_n 0, 1) := by decide +kernel
theorem dX6_init_16 : decode cX6_init 16 = .ok (.new 16, 3) := by decide +kernel
theorem dX6_init_19 : decode cX6_init 19 = .ok (.dup, 1) := by decide +kernel
theorem dX6_init_20 : decode cX6_init 20 = .ok (.invokespecial 18, 3) := by decide +kernel
theorem dX6_init_23 : decode cX6_init 23 = .ok (.putfield 19, 3) := by decide +kernel
theorem dX6_init_26 : decode cX6_init 26 = .ok (.aload_n 0, 1) := by decide +kernel
theorem dX6_init_27 : decode cX6_init 27 = .ok (.new 23, 3) := by decide +kernel
theorem dX6_init_30 : decode cX6_init 30 = .ok (.dup, 1) := by decide +kernel
theorem dX6_init_31 : decode cX6_init 31 = .ok (.invokespecial 25, 3) := by decide +kernel
theorem dX6_init_34 : decode cX6_init 34 = .ok (.putfield 26, 3) := by decide +kernel
theorem dX6_init_37 : decode cX6_init 37 = .ok (.aload_n 0, 1) := by decide +kernel
theorem dX6_init_38 : decode cX6_init 38 = .ok (.new 30, 3) := by decide +kernel
theorem dX6_init_41 : decode cX6_init 41 = .ok (.dup, 1) := by decide +kernel
theorem dX6_init_42 : decode cX6_init 42 = .ok (.invokespecial 32, 3) := by decide +kernel
theorem dX6_init_45 : decode cX6_init 45 = .ok (.putfield 33, 3) := by decide +kernel
theorem dX6_init_48 : decode cX6_init 48 = .ok (.aload_n 0, 1) := by decide +kernel
theorem dX6_init_49 : decode cX6_init 49 = .ok (.new 30, 3) := by decide +kernel
theorem dX6_init_52 : decode cX6_init 52 = .ok (.dup, 1) := by decide +kernel
theorem dX6_init_53 : decode cX6_init 53 = .ok (.invokespecial 32, 3) := by decide +kernel
theorem dX6_init_56 : decode cX6_init 56 = .ok (.putfield 37, 3) := by decide +kernel
theorem dX6_init_59 : decode cX6_init 59 = .ok (.aload_n 0, 1) := by decide +kernel
theorem dX6_init_60 : decode cX6_init 60 = .ok (.new 30, 3) := by decide +kernel
theorem dX6_init_63 : decode cX6_init 63 = .ok (.dup, 1) := by decide +kernel
theorem dX6_init_64 : decode cX6_init 64 = .ok (.invokespecial 32, 3) := by decide +kernel
theorem dX6_init_67 : decode cX6_init 67 = .ok (.putfield 40, 3) := by decide +kernel
theorem dX6_init_70 : decode cX6_init 70 = .ok (.aload_n 0, 1) := by decide +kernel
theorem dX6_init_71 : decode cX6_init 71 = .ok (.new 43, 3) := by decide +kernel
theorem dX6_init_74 : decode cX6_init 74 = .ok (.dup, 1) := by decide +kernel
theorem dX6_init_75 : decode cX6_init 75 = .ok (.invokespecial 45, 3) := by decide +kernel
theorem dX6_init_78 : decode cX6_init 78 = .ok (.putfield 46, 3) := by decide +kernel
theorem dX6_init_81 : decode cX6_init 81 = .ok (.aload_n 0, 1) := by decide +kernel
theorem dX6_init_82 : decode cX6_init 82 = .ok (.new 50, 3) := by decide +kernel
theorem dX6_init_85 : decode cX6_init 85 = .ok (.dup, 1) := by decide +kernel
theorem dX6_init_86 : decode cX6_init 86 = .ok (.invokespecial 52, 3) := by decide +kernel
theorem dX6_init_89 : decode cX6_init 89 = .ok (.putfield 53, 3) := by decide +kernel
theorem dX6_init_92 : decode cX6_init 92 = .ok (.aload_n 0, 1) := by decide +kernel
theorem dX6_init_93 : decode cX6_init 93 = .ok (.iconst 5, 1) := by decide +kernel
theorem dX6_init_94 : decode cX6_init 94 = .ok (.newarray .int, 2) := by decide +kernel
theorem dX6_init_96 : decode cX6_init 96 = .ok (.putfield 57, 3) := by decide +kernel
theorem dX6_init_99 : decode cX6_init 99 = .ok (.aload_n 0, 1) := by decide +kernel
theorem dX6_init_100 : decode cX6_init 100 = .ok (.lconst 0, 1) := by decide +kernel
theorem dX6_init_101 : decode cX6_init 101 = .ok (.putfield 61, 3) := by decide +kernel
theorem dX6_init_104 : decode cX6_init 104 = .ok (.return_, 1) := by decide +kernel
theorem dX6_type_0 : decode cX6_type 0 = .ok (.iload_n 3, 1) := by decide +kernel
theorem dX6_type_1 : decode cX6_type 1 = .ok (.iconst 1, 1) := by decide +kernel
theorem dX6_type_2 : decode cX6_type 2 = .ok (.if_icmp .lt 9, 3) := by decide +kernel
theorem dX6_type_5 : decode cX6_type 5 = .ok (.iload_n 3, 1) := by decide +kernel
theorem dX6_type_6 : decode cX6_type 6 = .ok (.bipush 8, 2) := by decide +kernel
theorem dX6_type_8 : decode cX6_type 8 = .ok (.if_icmp .le 5, 3) := by decide +kernel
theorem dX6_type_11 : decode cX6_type 11 = .ok (.iconst (-1), 1) := by decide +kernel
theorem dX6_type_12 : decode cX6_type 12 = .ok (.ireturn, 1) := by decide +kernel
theorem dX6_type_13 : decode cX6_type 13 = .ok (.aload_n 0, 1) := by decide +kernel
theorem dX6_type_14 : decode cX6_type 14 = .ok (.getfield 10, 3) := by decide +kernel
theorem dX6_type_17 : decode cX6_type 17 = .ok (.getfield 65, 3) := by decide +kernel
theorem dX6_type_20 : decode cX6_type 20 = .ok (.iload_n 3, 1) := by decide +kernel
theorem dX6_type_21 : decode cX6_type 21 = .ok (.iadd, 1) := by decide +kernel
theorem dX6_type_22 : decode cX6_type 22 = .ok (.sipush 300, 3) := by decide +kernel
theorem dX6_type_25 : decode cX6_type 25 = .ok (.if_icmp .le 6, 3) := by decide +kernel
theorem dX6_type_28 : decode cX6_type 28 = .ok (.bipush (-3), 2) := by decide +kernel
theorem dX6_type_30 : decode cX6_type 30 = .ok (.ireturn, 1) := by decide +kernel
theorem dX6_type_31 : decode cX6_type 31 = .ok (.iload_n 3, 1) := by decide +kernel
theorem dX6_type_32 : decode cX6_type 32 = .ok (.iconst 1, 1) := by decide +kernel
theorem dX6_type_33 : decode cX6_type 33 = .ok (.isub, 1) := by decide +kernel
theorem dX6_type_34 : decode cX6_type 34 = .ok (.istore 4, 2) := by decide +kernel
theorem dX6_type_36 : decode cX6_type 36 = .ok (.iload 4, 2) := by decide +kernel
theorem dX6_type_38 : decode cX6_type 38 = .ok (.ifCond .lt 28, 3) := by decide +kernel
theorem dX6_type_41 : decode cX6_type 41 = .ok (.aload_n 0, 1) := by decide +kernel
theorem dX6_type_42 : decode cX6_type 42 = .ok (.getfield 10, 3) := by decide +kernel
theorem dX6_type_45 : decode cX6_type 45 = .ok (.lload_n 1, 1) := by decide +kernel
theorem dX6_type_46 : decode cX6_type 46 = .ok (.bipush 8, 2) := by decide +kernel
theorem dX6_type_48 : decode cX6_type 48 = .ok (.iload 4, 2) := by decide +kernel
theorem dX6_type_50 : decode cX6_type 50 = .ok (.imul, 1) := by decide +kernel
theorem dX6_type_51 : decode cX6_type 51 = .ok (.lushr, 1) := by decide +kernel
theorem dX6_type_52 : decode cX6_type 52 = .ok (.l2i, 1) := by decide +kernel
theorem dX6_type_53 : decode cX6_type 53 = .ok (.sipush 255, 3) := by decide +kernel
theorem dX6_type_56 : decode cX6_type 56 = .ok (.iand, 1) := by decide +kernel
theorem dX6_type_57 : decode cX6_type 57 = .ok (.invokevirtual 69, 3) := by decide +kernel
theorem dX6_type_60 : decode cX6_type 60 = .ok (.iinc 4 (-1), 3) := by decide +kernel
theorem dX6_type_63 : decode cX6_type 63 = .ok (.goto (-27), 3) := by decide +kernel
theorem dX6_type_66 : decode cX6_type 66 = .ok (.aload_n 0, 1) := by decide +kernel
theorem dX6_type_67 : decode cX6_type 67 = .ok (.getfield 10, 3) := by decide +kernel
theorem dX6_type_70 : decode cX6_type 70 = .ok (.getfield 65, 3) := by decide +kernel
theorem dX6_type_73 : decode cX6_type 73 = .ok (.ireturn, 1) := by decide +kernel
theorem dX6_clear_0 : decode cX6_clear 0 = .ok (.aload_n 0, 1) := by decide +kernel
theorem dX6_clear_1 : decode cX6_clear 1 = .ok (.getfield 10, 3) := by decide +kernel
theorem dX6_clear_4 : decode cX6_clear 4 = .ok (.getfield 65, 3) := by decide +kernel
theorem dX6_clear_7 : decode cX6_clear 7 = .ok (.istore_n 1, 1) := by decide +kernel
theorem dX6_clear_8 : decode cX6_clear 8 = .ok (.aload_n 0, 1) := by decide +kernel
theorem dX6_clear_9 : decode cX6_clear 9 = .ok (.getfield 10, 3) := by decide +kernel
theorem dX6_clear_12 : decode cX6_clear 12 = .ok (.iconst 0, 1) := by decide +kernel
theorem dX6_clear_13 : decode cX6_clear 13 = .ok (.putfield 65, 3) := by decide +kernel
theorem dX6_clear_16 : decode cX6_clear 16 = .ok (.iload_n 1, 1) := by decide +kernel
theorem dX6_clear_17 : decode cX6_clear 17 = .ok (.ireturn, 1) := by decide +kernel
theorem dX6_valley_0 : decode cX6_valley 0 = .ok (.aload_n 0, 1) := by decide +kernel
theorem dX6_valley_1 : decode cX6_valley 1 = .ok (.getfield 19, 3) := by decide +kernel
theorem dX6_valley_4 : decode cX6_valley 4 = .ok (.aload_n 0, 1) := by decide +kernel
theorem dX6_valley_5 : decode cX6_valley 5 = .ok (.getfield 10, 3) := by decide +kernel
theorem dX6_valley_8 : decode cX6_valley 8 = .ok (.invokevirtual 73, 3) := by decide +kernel
theorem dX6_valley_11 : decode cX6_valley 11 = .ok (.istore_n 1, 1) := by decide +kernel
theorem dX6_valley_12 : decode cX6_valley 12 = .ok (.iload_n 1, 1) := by decide +kernel
theorem dX6_valley_13 : decode cX6_valley 13 = .ok (.ifCond .ge 14, 3) := by decide +kernel
theorem dX6_valley_16 : decode cX6_valley 16 = .ok (.bipush (-10), 2) := by decide +kernel
theorem dX6_valley_18 : decode cX6_valley 18 = .ok (.aload_n 0, 1) := by decide +kernel
theorem dX6_valley_19 : decode cX6_valley 19 = .ok (.getfield 10, 3) := by decide +kernel
theorem dX6_valley_22 : decode cX6_valley 22 = .ok (.getfield 77, 3) := by decide +kernel
theorem dX6_valley_25 : decode cX6_valley 25 = .ok (.isub, 1) := by decide +kernel
theorem dX6_valley_26 : decode cX6_valley 26 = .ok (.ireturn, 1) := by decide +kernel
theorem dX6_valley_27 : decode cX6_valley 27 = .ok (.aload_n 0, 1) := by decide +kernel
theorem dX6_valley_28 : decode cX6_valley 28 = .ok (.getfield 26, 3) := by decide +kernel
theorem dX6_valley_31 : decode cX6_valley 31 = .ok (.aload_n 0, 1) := by decide +kernel
theorem dX6_valley_32 : decode cX6_valley 32 = .ok (.getfield 19, 3) := by decide +kernel
theorem dX6_valley_35 : decode cX6_valley 35 = .ok (.getfield 80, 3) := by decide +kernel
theorem dX6_valley_38 : decode cX6_valley 38 = .ok (.invokevirtual 81, 3) := by decide +kernel
theorem dX6_valley_41 : decode cX6_valley 41 = .ok (.aload_n 0, 1) := by decide +kernel
theorem dX6_valley_42 : decode cX6_valley 42 = .ok (.getfield 19, 3) := by decide +kernel
theorem dX6_valley_45 : decode cX6_valley 45 = .ok (.getfield 85, 3) := by decide +kernel
theorem dX6_valley_48 : decode cX6_valley 48 = .ok (.aload_n 0, 1) := by decide +kernel
theorem dX6_valley_49 : decode cX6_valley 49 = .ok (.getfield 33, 3) := by decide +kernel
theorem dX6_valley_52 : decode cX6_valley 52 = .ok (.getfield 88, 3) := by decide +kernel
theorem dX6_valley_55 : decode cX6_valley 55 = .ok (.putfield 88, 3) := by decide +kernel
theorem dX6_valley_58 : decode cX6_valley 58 = .ok (.aload_n 0, 1) := by decide +kernel
theorem dX6_valley_59 : decode cX6_valley 59 = .ok (.getfield 33, 3) := by decide +kernel
theorem dX6_valley_62 : decode cX6_valley 62 = .ok (.aload_n 0, 1) := by decide +kernel
theorem dX6_valley_63 : decode cX6_valley 63 = .ok (.getfield 19, 3) := by decide +kernel
theorem dX6_valley_66 : decode cX6_valley 66 = .ok (.getfield 85, 3) := by decide +kernel
theorem dX6_valley_69 : decode cX6_valley 69 = .ok (.invokevirtual 91, 3) := by decide +kernel
theorem dX6_valley_72 : decode cX6_valley 72 = .ok (.aload_n 0, 1) := by decide +kernel
theorem dX6_valley_73 : decode cX6_valley 73 = .ok (.getfield 37, 3) := by decide +kernel
theorem dX6_valley_76 : decode cX6_valley 76 = .ok (.iconst 0, 1) := by decide +kernel
theorem dX6_valley_77 : decode cX6_valley 77 = .ok (.putfield 94, 3) := by decide +kernel
theorem dX6_valley_80 : decode cX6_valley 80 = .ok (.aload_n 0, 1) := by decide +kernel
theorem dX6_valley_81 : decode cX6_valley 81 = .ok (.getfield 40, 3) := by decide +kernel
theorem dX6_valley_84 : decode cX6_valley 84 = .ok (.iconst 0, 1) := by decide +kernel
theorem dX6_valley_85 : decode cX6_valley 85 = .ok (.putfield 94, 3) := by decide +kernel
theorem dX6_valley_88 : decode cX6_valley 88 = .ok (.aload_n 0, 1) := by decide +kernel
theorem dX6_valley_89 : decode cX6_valley 89 = .ok (.getfield 10, 3) := by decide +kernel
theorem dX6_valley_92 : decode cX6_valley 92 = .ok (.iconst 0, 1) := by decide +kernel
theorem dX6_valley_93 : decode cX6_valley 93 = .ok (.putfield 65, 3) := by decide +kernel
theorem dX6_valley_96 : decode cX6_valley 96 = .ok (.iload_n 1, 1) := by decide +kernel
theorem dX6_valley_97 : decode cX6_valley 97 = .ok (.ireturn, 1) := by decide +kernel
theorem dX6_house_0 : decode cX6_house 0 = .ok (.aload_n 0, 1) := by decide +kernel
theorem dX6_house_1 : decode cX6_house 1 = .ok (.getfield 33, 3) := by decide +kernel
theorem dX6_house_4 : decode cX6_house 4 = .ok (.iload_n 1, 1) := by decide +kernel
theorem dX6_house_5 : decode cX6_house 5 = .ok (.invokevirtual 98, 3) := by decide +kernel
theorem dX6_house_8 : decode cX6_house 8 = .ok (.ifCond .eq 12, 3) := by decide +kernel
theorem dX6_house_11 : decode cX6_house 11 = .ok (.iload_n 2, 1) := by decide +kernel
theorem dX6_house_12 : decode cX6_house 12 = .ok (.ifCond .lt 8, 3) := by decide +kernel
theorem dX6_house_15 : decode cX6_house 15 = .ok (.iload_n 2, 1) := by decide +kernel
theorem dX6_house_16 : decode cX6_house 16 = .ok (.iconst 5, 1) := by decide +kernel
theorem dX6_house_17 : decode cX6_house 17 = .ok (.if_icmp .le 5, 3) := by decide +kernel
theorem dX6_house_20 : decode cX6_house 20 = .ok (.iconst (-1), 1) := by decide +kernel
theorem dX6_house_21 : decode cX6_house 21 = .ok (.ireturn, 1) := by decide +kernel
theorem dX6_house_22 : decode cX6_house 22 = .ok (.iload_n 2, 1) := by decide +kernel
theorem dX6_house_23 : decode cX6_house 23 = .ok (.iconst 5, 1) := by decide +kernel
theorem dX6_house_24 : decode cX6_house 24 = .ok (.if_icmp .ge 15, 3) := by decide +kernel
theorem dX6_house_27 : decode cX6_house 27 = .ok (.aload_n 0, 1) := by decide +kernel
theorem dX6_house_28 : decode cX6_house 28 = .ok (.getfield 33, 3) := by decide +kernel
theorem dX6_house_31 : decode cX6_house 31 = .ok (.iload_n 1, 1) := by decide +kernel
theorem dX6_house_32 : decode cX6_house 32 = .ok (.iload_n 2, 1) := by decide +kernel
theorem dX6_house_33 : decode cX6_house 33 = .ok (.invokevirtual 102, 3) := by decide +kernel
theorem dX6_house_36 : decode cX6_house 36 = .ok (.goto 11, 3) := by decide +kernel
theorem dX6_house_39 : decode cX6_house 39 = .ok (.aload_n 0, 1) := by decide +kernel
theorem dX6_house_40 : decode cX6_house 40 = .ok (.getfield 33, 3) := by decide +kernel
theorem dX6_house_43 : decode cX6_house 43 = .ok (.iload_n 1, 1) := by decide +kernel
theorem dX6_house_44 : decode cX6_house 44 = .ok (.invokevirtual 106, 3) := by decide +kernel
theorem dX6_house_47 : decode cX6_house 47 = .ok (.ireturn, 1) := by decide +kernel
theorem dX6_dish_0 : decode cX6_dish 0 = .ok (.aload_n 0, 1) := by decide +kernel
theorem dX6_dish_1 : decode cX6_dish 1 = .ok (.getfield 26, 3) := by decide +kernel
theorem dX6_dish_4 : decode cX6_dish 4 = .ok (.iload_n 1, 1) := by decide +kernel
theorem dX6_dish_5 : decode cX6_dish 5 = .ok (.invokevirtual 110, 3) := by decide +kernel
theorem dX6_dish_8 : decode cX6_dish 8 = .ok (.ifCond .eq 7, 3) := by decide +kernel
theorem dX6_dish_11 : decode cX6_dish 11 = .ok (.iload_n 2, 1) := by decide +kernel
theorem dX6_dish_12 : decode cX6_dish 12 = .ok (.ifCond .ge 5, 3) := by decide +kernel
theorem dX6_dish_15 : decode cX6_dish 15 = .ok (.iconst (-1), 1) := by decide +kernel
theorem dX6_dish_16 : decode cX6_dish 16 = .ok (.ireturn, 1) := by decide +kernel
theorem dX6_dish_17 : decode cX6_dish 17 = .ok (.iload_n 2, 1) := by decide +kernel
theorem dX6_dish_18 : decode cX6_dish 18 = .ok (.iconst 5, 1) := by decide +kernel
theorem dX6_dish_19 : decode cX6_dish 19 = .ok (.if_icmp .ge 13, 3) := by decide +kernel
theorem dX6_dish_22 : decode cX6_dish 22 = .ok (.aload_n 0, 1) := by decide +kernel
theorem dX6_dish_23 : decode cX6_dish 23 = .ok (.getfield 26, 3) := by decide +kernel
theorem dX6_dish_26 : decode cX6_dish 26 = .ok (.iload_n 1, 1) := by decide +kernel
theorem dX6_dish_27 : decode cX6_dish 27 = .ok (.iload_n 2, 1) := by decide +kernel
theorem dX6_dish_28 : decode cX6_dish 28 = .ok (.invokevirtual 113, 3) := by decide +kernel
theorem dX6_dish_31 : decode cX6_dish 31 = .ok (.ireturn, 1) := by decide +kernel
theorem dX6_dish_32 : decode cX6_dish 32 = .ok (.iload_n 2, 1) := by decide +kernel
theorem dX6_dish_33 : decode cX6_dish 33 = .ok (.tableswitch 57 5 7 #[27, 37, 47], 27) := by decide +kernel
theorem dX6_dish_60 : decode cX6_dish 60 = .ok (.aload_n 0, 1) := by decide +kernel
theorem dX6_dish_61 : decode cX6_dish 61 = .ok (.getfield 26, 3) := by decide +kernel
theorem dX6_dish_64 : decode cX6_dish 64 = .ok (.getfield 116, 3) := by decide +kernel
theorem dX6_dish_67 : decode cX6_dish 67 = .ok (.iload_n 1, 1) := by decide +kernel
theorem dX6_dish_68 : decode cX6_dish 68 = .ok (.iaload, 1) := by decide +kernel
theorem dX6_dish_69 : decode cX6_dish 69 = .ok (.ireturn, 1) := by decide +kernel
theorem dX6_dish_70 : decode cX6_dish 70 = .ok (.aload_n 0, 1) := by decide +kernel
theorem dX6_dish_71 : decode cX6_dish 71 = .ok (.getfield 26, 3) := by decide +kernel
theorem dX6_dish_74 : decode cX6_dish 74 = .ok (.getfield 119, 3) := by decide +kernel
theorem dX6_dish_77 : decode cX6_dish 77 = .ok (.iload_n 1, 1) := by decide +kernel
theorem dX6_dish_78 : decode cX6_dish 78 = .ok (.iaload, 1) := by decide +kernel
theorem dX6_dish_79 : decode cX6_dish 79 = .ok (.ireturn, 1) := by decide +kernel
theorem dX6_dish_80 : decode cX6_dish 80 = .ok (.aload_n 0, 1) := by decide +kernel
theorem dX6_dish_81 : decode cX6_dish 81 = .ok (.getfield 26, 3) := by decide +kernel
theorem dX6_dish_84 : decode cX6_dish 84 = .ok (.getfield 122, 3) := by decide +kernel
theorem dX6_dish_87 : decode cX6_dish 87 = .ok (.iload_n 1, 1) := by decide +kernel
theorem dX6_dish_88 : decode cX6_dish 88 = .ok (.iaload, 1) := by decide +kernel
theorem dX6_dish_89 : decode cX6_dish 89 = .ok (.ireturn, 1) := by decide +kernel
theorem dX6_dish_90 : decode cX6_dish 90 = .ok (.iconst (-1), 1) := by decide +kernel
theorem dX6_dish_91 : decode cX6_dish 91 = .ok (.ireturn, 1) := by decide +kernel
theorem dX6_cook_0 : decode cX6_cook 0 = .ok (.aload_n 0, 1) := by decide +kernel
theorem dX6_cook_1 : decode cX6_cook 1 = .ok (.getfield 33, 3) := by decide +kernel
theorem dX6_cook_4 : decode cX6_cook 4 = .ok (.iload_n 1, 1) := by decide +kernel
theorem dX6_cook_5 : decode cX6_cook 5 = .ok (.invokevirtual 98, 3) := by decide +kernel
theorem dX6_cook_8 : decode cX6_cook 8 = .ok (.ifCond .eq 14, 3) := by decide +kernel
theorem dX6_cook_11 : decode cX6_cook 11 = .ok (.aload_n 0, 1) := by decide +kernel
theorem dX6_cook_12 : decode cX6_cook 12 = .ok (.getfield 26, 3) := by decide +kernel
theorem dX6_cook_15 : decode cX6_cook 15 = .ok (.iload_n 2, 1) := by decide +kernel
theorem dX6_cook_16 : decode cX6_cook 16 = .ok (.invokevirtual 110, 3) := by decide +kernel
theorem dX6_cook_19 : decode cX6_cook 19 = .ok (.ifCond .ne 5, 3) := by decide +kernel
theorem dX6_cook_22 : decode cX6_cook 22 = .ok (.iconst (-1), 1) := by decide +kernel
theorem dX6_cook_23 : decode cX6_cook 23 = .ok (.ireturn, 1) := by decide +kernel
theorem dX6_cook_24 : decode cX6_cook 24 = .ok (.aload_n 0, 1) := by decide +kernel
theorem dX6_cook_25 : decode cX6_cook 25 = .ok (.iload_n 1, 1) := by decide +kernel
theorem dX6_cook_26 : decode cX6_cook 26 = .ok (.iload_n 2, 1) := by decide +kernel
theorem dX6_cook_27 : decode cX6_cook 27 = .ok (.invokevirtual 125, 3) := by decide +kernel
theorem dX6_cook_30 : decode cX6_cook 30 = .ok (.ifCond .ne 6, 3) := by decide +kernel
theorem dX6_cook_33 : decode cX6_cook 33 = .ok (.bipush (-2), 2) := by decide +kernel
theorem dX6_cook_35 : decode cX6_cook 35 = .ok (.ireturn, 1) := by decide +kernel
theorem dX6_cook_36 : decode cX6_cook 36 = .ok (.aload_n 0, 1) := by decide +kernel
theorem dX6_cook_37 : decode cX6_cook 37 = .ok (.getfield 33, 3) := by decide +kernel
theorem dX6_cook_40 : decode cX6_cook 40 = .ok (.getfield 129, 3) := by decide +kernel
theorem dX6_cook_43 : decode cX6_cook 43 = .ok (.bipush 20, 2) := by decide +kernel
theorem dX6_cook_45 : decode cX6_cook 45 = .ok (.if_icmp .lt 6, 3) := by decide +kernel
theorem dX6_cook_48 : decode cX6_cook 48 = .ok (.bipush (-3), 2) := by decide +kernel
theorem dX6_cook_50 : decode cX6_cook 50 = .ok (.ireturn, 1) := by decide +kernel
theorem dX6_cook_51 : decode cX6_cook 51 = .ok (.iconst 0, 1) := by decide +kernel
theorem dX6_cook_52 : decode cX6_cook 52 = .ok (.istore_n 3, 1) := by decide +kernel
theorem dX6_cook_53 : decode cX6_cook 53 = .ok (.iload_n 3, 1) := by decide +kernel
theorem dX6_cook_54 : decode cX6_cook 54 = .ok (.iconst 5, 1) := by decide +kernel
theorem dX6_cook_55 : decode cX6_cook 55 = .ok (.if_icmp .ge 28, 3) := by decide +kernel
theorem dX6_cook_58 : decode cX6_cook 58 = .ok (.aload_n 0, 1) := by decide +kernel
theorem dX6_cook_59 : decode cX6_cook 59 = .ok (.getfield 33, 3) := by decide +kernel
theorem dX6_cook_62 : decode cX6_cook 62 = .ok (.iload_n 1, 1) := by decide +kernel
theorem dX6_cook_63 : decode cX6_cook 63 = .ok (.iload_n 3, 1) := by decide +kernel
theorem dX6_cook_64 : decode cX6_cook 64 = .ok (.aload_n 0, 1) := by decide +kernel
theorem dX6_cook_65 : decode cX6_cook 65 = .ok (.getfield 26, 3) := by decide +kernel
theorem dX6_cook_68 : decode cX6_cook 68 = .ok (.iload_n 2, 1) := by decide +kernel
theorem dX6_cook_69 : decode cX6_cook 69 = .ok (.iload_n 3, 1) := by decide +kernel
theorem dX6_cook_70 : decode cX6_cook 70 = .ok (.invokevirtual 113, 3) := by decide +kernel
theorem dX6_cook_73 : decode cX6_cook 73 = .ok (.ineg, 1) := by decide +kernel
theorem dX6_cook_74 : decode cX6_cook 74 = .ok (.invokevirtual 132, 3) := by decide +kernel
theorem dX6_cook_77 : decode cX6_cook 77 = .ok (.iinc 3 1, 3) := by decide +kernel
theorem dX6_cook_80 : decode cX6_cook 80 = .ok (.goto (-27), 3) := by decide +kernel
theorem dX6_cook_83 : decode cX6_cook 83 = .ok (.aload_n 0, 1) := by decide +kernel
theorem dX6_cook_84 : decode cX6_cook 84 = .ok (.getfield 33, 3) := by decide +kernel
theorem dX6_cook_87 : decode cX6_cook 87 = .ok (.iload_n 1, 1) := by decide +kernel
theorem dX6_cook_88 : decode cX6_cook 88 = .ok (.iload_n 2, 1) := by decide +kernel
theorem dX6_cook_89 : decode cX6_cook 89 = .ok (.invokevirtual 136, 3) := by decide +kernel
theorem dX6_cook_92 : decode cX6_cook 92 = .ok (.aload_n 0, 1) := by decide +kernel
theorem dX6_cook_93 : decode cX6_cook 93 = .ok (.getfield 26, 3) := by decide +kernel
theorem dX6_cook_96 : decode cX6_cook 96 = .ok (.getfield 116, 3) := by decide +kernel
theorem dX6_cook_99 : decode cX6_cook 99 = .ok (.iload_n 2, 1) := by decide +kernel
theorem dX6_cook_100 : decode cX6_cook 100 = .ok (.iaload, 1) := by decide +kernel
theorem dX6_cook_101 : decode cX6_cook 101 = .ok (.ireturn, 1) := by decide +kernel
theorem dX6_undo_0 : decode cX6_undo 0 = .ok (.aload_n 0, 1) := by decide +kernel
theorem dX6_undo_1 : decode cX6_undo 1 = .ok (.getfield 33, 3) := by decide +kernel
theorem dX6_undo_4 : decode cX6_undo 4 = .ok (.getfield 129, 3) := by decide +kernel
theorem dX6_undo_7 : decode cX6_undo 7 = .ok (.ifCond .gt 6, 3) := by decide +kernel
theorem dX6_undo_10 : decode cX6_undo 10 = .ok (.bipush (-2), 2) := by decide +kernel
theorem dX6_undo_12 : decode cX6_undo 12 = .ok (.ireturn, 1) := by decide +kernel
theorem dX6_undo_13 : decode cX6_undo 13 = .ok (.aload_n 0, 1) := by decide +kernel
theorem dX6_undo_14 : decode cX6_undo 14 = .ok (.getfield 33, 3) := by decide +kernel
theorem dX6_undo_17 : decode cX6_undo 17 = .ok (.dup, 1) := by decide +kernel
theorem dX6_undo_18 : decode cX6_undo 18 = .ok (.getfield 129, 3) := by decide +kernel
theorem dX6_undo_21 : decode cX6_undo 21 = .ok (.iconst 1, 1) := by decide +kernel
theorem dX6_undo_22 : decode cX6_undo 22 = .ok (.isub, 1) := by decide +kernel
theorem dX6_undo_23 : decode cX6_undo 23 = .ok (.putfield 129, 3) := by decide +kernel
theorem dX6_undo_26 : decode cX6_undo 26 = .ok (.aload_n 0, 1) := by decide +kernel
theorem dX6_undo_27 : decode cX6_undo 27 = .ok (.getfield 33, 3) := by decide +kernel
theorem dX6_undo_30 : decode cX6_undo 30 = .ok (.getfield 140, 3) := by decide +kernel
theorem dX6_undo_33 : decode cX6_undo 33 = .ok (.aload_n 0, 1) := by decide +kernel
theorem dX6_undo_34 : decode cX6_undo 34 = .ok (.getfield 33, 3) := by decide +kernel
theorem dX6_undo_37 : decode cX6_undo 37 = .ok (.getfield 129, 3) := by decide +kernel
theorem dX6_undo_40 : decode cX6_undo 40 = .ok (.iaload, 1) := by decide +kernel
theorem dX6_undo_41 : decode cX6_undo 41 = .ok (.istore_n 1, 1) := by decide +kernel
theorem dX6_undo_42 : decode cX6_undo 42 = .ok (.aload_n 0, 1) := by decide +kernel
theorem dX6_undo_43 : decode cX6_undo 43 = .ok (.getfield 33, 3) := by decide +kernel
theorem dX6_undo_46 : decode cX6_undo 46 = .ok (.getfield 143, 3) := by decide +kernel
theorem dX6_undo_49 : decode cX6_undo 49 = .ok (.aload_n 0, 1) := by decide +kernel
theorem dX6_undo_50 : decode cX6_undo 50 = .ok (.getfield 33, 3) := by decide +kernel
theorem dX6_undo_53 : decode cX6_undo 53 = .ok (.getfield 129, 3) := by decide +kernel
theorem dX6_undo_56 : decode cX6_undo 56 = .ok (.iaload, 1) := by decide +kernel
theorem dX6_undo_57 : decode cX6_undo 57 = .ok (.istore_n 2, 1) := by decide +kernel
theorem dX6_undo_58 : decode cX6_undo 58 = .ok (.iconst 0, 1) := by decide +kernel
theorem dX6_undo_59 : decode cX6_undo 59 = .ok (.istore_n 3, 1) := by decide +kernel
theorem dX6_undo_60 : decode cX6_undo 60 = .ok (.iload_n 3, 1) := by decide +kernel
theorem dX6_undo_61 : decode cX6_undo 61 = .ok (.iconst 5, 1) := by decide +kernel
theorem dX6_undo_62 : decode cX6_undo 62 = .ok (.if_icmp .ge 46, 3) := by decide +kernel
theorem dX6_undo_65 : decode cX6_undo 65 = .ok (.bipush 9, 2) := by decide +kernel
theorem dX6_undo_67 : decode cX6_undo 67 = .ok (.aload_n 0, 1) := by decide +kernel
theorem dX6_undo_68 : decode cX6_undo 68 = .ok (.getfield 33, 3) := by decide +kernel
theorem dX6_undo_71 : decode cX6_undo 71 = .ok (.iload_n 1, 1) := by decide +kernel
theorem dX6_undo_72 : decode cX6_undo 72 = .ok (.iload_n 3, 1) := by decide +kernel
theorem dX6_undo_73 : decode cX6_undo 73 = .ok (.invokevirtual 102, 3) := by decide +kernel
theorem dX6_undo_76 : decode cX6_undo 76 = .ok (.isub, 1) := by decide +kernel
theorem dX6_undo_77 : decode cX6_undo 77 = .ok (.istore 4, 2) := by decide +kernel
theorem dX6_undo_79 : decode cX6_undo 79 = .ok (.aload_n 0, 1) := by decide +kernel
theorem dX6_undo_80 : decode cX6_undo 80 = .ok (.getfield 33, 3) := by decide +kernel
theorem dX6_undo_83 : decode cX6_undo 83 = .ok (.iload_n 1, 1) := by decide +kernel
theorem dX6_undo_84 : decode cX6_undo 84 = .ok (.iload_n 3, 1) := by decide +kernel
theorem dX6_undo_85 : decode cX6_undo 85 = .ok (.iload 4, 2) := by decide +kernel
theorem dX6_undo_87 : decode cX6_undo 87 = .ok (.aload_n 0, 1) := by decide +kernel
theorem dX6_undo_88 : decode cX6_undo 88 = .ok (.getfield 26, 3) := by decide +kernel
theorem dX6_undo_91 : decode cX6_undo 91 = .ok (.iload_n 2, 1) := by decide +kernel
theorem dX6_undo_92 : decode cX6_undo 92 = .ok (.iload_n 3, 1) := by decide +kernel
theorem dX6_undo_93 : decode cX6_undo 93 = .ok (.invokevirtual 113, 3) := by decide +kernel
theorem dX6_undo_96 : decode cX6_undo 96 = .ok (.invokestatic 146, 3) := by decide +kernel
theorem dX6_undo_99 : decode cX6_undo 99 = .ok (.invokevirtual 132, 3) := by decide +kernel
theorem dX6_undo_102 : decode cX6_undo 102 = .ok (.iinc 3 1, 3) := by decide +kernel
theorem dX6_undo_105 : decode cX6_undo 105 = .ok (.goto (-45), 3) := by decide +kernel
theorem dX6_undo_108 : decode cX6_undo 108 = .ok (.aload_n 0, 1) := by decide +kernel
theorem dX6_undo_109 : decode cX6_undo 109 = .ok (.getfield 33, 3) := by decide +kernel
theorem dX6_undo_112 : decode cX6_undo 112 = .ok (.getfield 129, 3) := by decide +kernel
theorem dX6_undo_115 : decode cX6_undo 115 = .ok (.ireturn, 1) := by decide +kernel
theorem dX6_gives_0 : decode cX6_gives 0 = .ok (.aload_n 0, 1) := by decide +kernel
theorem dX6_gives_1 : decode cX6_gives 1 = .ok (.getfield 33, 3) := by decide +kernel
theorem dX6_gives_4 : decode cX6_gives 4 = .ok (.iload_n 1, 1) := by decide +kernel
theorem dX6_gives_5 : decode cX6_gives 5 = .ok (.invokevirtual 98, 3) := by decide +kernel
theorem dX6_gives_8 : decode cX6_gives 8 = .ok (.ifCond .eq 19, 3) := by decide +kernel
theorem dX6_gives_11 : decode cX6_gives 11 = .ok (.aload_n 0, 1) := by decide +kernel
theorem dX6_gives_12 : decode cX6_gives 12 = .ok (.getfield 33, 3) := by decide +kernel
theorem dX6_gives_15 : decode cX6_gives 15 = .ok (.iload_n 2, 1) := by decide +kernel
theorem dX6_gives_16 : decode cX6_gives 16 = .ok (.invokevirtual 98, 3) := by decide +kernel
theorem dX6_gives_19 : decode cX6_gives 19 = .ok (.ifCond .eq 8, 3) := by decide +kernel
theorem dX6_gives_22 : decode cX6_gives 22 = .ok (.iload_n 1, 1) := by decide +kernel
theorem dX6_gives_23 : decode cX6_gives 23 = .ok (.iload_n 2, 1) := by decide +kernel
theorem dX6_gives_24 : decode cX6_gives 24 = .ok (.if_icmp .ne 5, 3) := by decide +kernel
theorem dX6_gives_27 : decode cX6_gives 27 = .ok (.iconst (-1), 1) := by decide +kernel
theorem dX6_gives_28 : decode cX6_gives 28 = .ok (.ireturn, 1) := by decide +kernel
theorem dX6_gives_29 : decode cX6_gives 29 = .ok (.iload_n 3, 1) := by decide +kernel
theorem dX6_gives_30 : decode cX6_gives 30 = .ok (.ifCond .lt 21, 3) := by decide +kernel
theorem dX6_gives_33 : decode cX6_gives 33 = .ok (.iload_n 3, 1) := by decide +kernel
theorem dX6_gives_34 : decode cX6_gives 34 = .ok (.iconst 5, 1) := by decide +kernel
theorem dX6_gives_35 : decode cX6_gives 35 = .ok (.if_icmp .ge 16, 3) := by decide +kernel
theorem dX6_gives_38 : decode cX6_gives 38 = .ok (.iload 4, 2) := by decide +kernel
theorem dX6_gives_40 : decode cX6_gives 40 = .ok (.iconst 1, 1) := by decide +kernel
theorem dX6_gives_41 : decode cX6_gives 41 = .ok (.if_icmp .lt 10, 3) := by decide +kernel
theorem dX6_gives_44 : decode cX6_gives 44 = .ok (.iload 4, 2) := by decide +kernel
theorem dX6_gives_46 : decode cX6_gives 46 = .ok (.bipush 9, 2) := by decide +kernel
theorem dX6_gives_48 : decode cX6_gives 48 = .ok (.if_icmp .le 5, 3) := by decide +kernel
theorem dX6_gives_51 : decode cX6_gives 51 = .ok (.iconst (-1), 1) := by decide +kernel
theorem dX6_gives_52 : decode cX6_gives 52 = .ok (.ireturn, 1) := by decide +kernel
theorem dX6_gives_53 : decode cX6_gives 53 = .ok (.aload_n 0, 1) := by decide +kernel
theorem dX6_gives_54 : decode cX6_gives 54 = .ok (.getfield 33, 3) := by decide +kernel
theorem dX6_gives_57 : decode cX6_gives 57 = .ok (.iload_n 1, 1) := by decide +kernel
theorem dX6_gives_58 : decode cX6_gives 58 = .ok (.iload_n 3, 1) := by decide +kernel
theorem dX6_gives_59 : decode cX6_gives 59 = .ok (.invokevirtual 102, 3) := by decide +kernel
theorem dX6_gives_62 : decode cX6_gives 62 = .ok (.iload 4, 2) := by decide +kernel
theorem dX6_gives_64 : decode cX6_gives 64 = .ok (.if_icmp .ge 6, 3) := by decide +kernel
theorem dX6_gives_67 : decode cX6_gives 67 = .ok (.bipush (-2), 2) := by decide +kernel
theorem dX6_gives_69 : decode cX6_gives 69 = .ok (.ireturn, 1) := by decide +kernel
theorem dX6_gives_70 : decode cX6_gives 70 = .ok (.aload_n 0, 1) := by decide +kernel
theorem dX6_gives_71 : decode cX6_gives 71 = .ok (.getfield 33, 3) := by decide +kernel
theorem dX6_gives_74 : decode cX6_gives 74 = .ok (.iload_n 2, 1) := by decide +kernel
theorem dX6_gives_75 : decode cX6_gives 75 = .ok (.iload_n 3, 1) := by decide +kernel
theorem dX6_gives_76 : decode cX6_gives 76 = .ok (.invokevirtual 102, 3) := by decide +kernel
theorem dX6_gives_79 : decode cX6_gives 79 = .ok (.iload 4, 2) := by decide +kernel
theorem dX6_gives_81 : decode cX6_gives 81 = .ok (.iadd, 1) := by decide +kernel
theorem dX6_gives_82 : decode cX6_gives 82 = .ok (.bipush 9, 2) := by decide +kernel
theorem dX6_gives_84 : decode cX6_gives 84 = .ok (.if_icmp .le 6, 3) := by decide +kernel
theorem dX6_gives_87 : decode cX6_gives 87 = .ok (.bipush (-3), 2) := by decide +kernel
theorem dX6_gives_89 : decode cX6_gives 89 = .ok (.ireturn, 1) := by decide +kernel
theorem dX6_gives_90 : decode cX6_gives 90 = .ok (.aload_n 0, 1) := by decide +kernel
theorem dX6_gives_91 : decode cX6_gives 91 = .ok (.getfield 33, 3) := by decide +kernel
theorem dX6_gives_94 : decode cX6_gives 94 = .ok (.iload_n 1, 1) := by decide +kernel
theorem dX6_gives_95 : decode cX6_gives 95 = .ok (.iload_n 3, 1) := by decide +kernel
theorem dX6_gives_96 : decode cX6_gives 96 = .ok (.iload 4, 2) := by decide +kernel
theorem dX6_gives_98 : decode cX6_gives 98 = .ok (.ineg, 1) := by decide +kernel
theorem dX6_gives_99 : decode cX6_gives 99 = .ok (.invokevirtual 132, 3) := by decide +kernel
theorem dX6_gives_102 : decode cX6_gives 102 = .ok (.aload_n 0, 1) := by decide +kernel
theorem dX6_gives_103 : decode cX6_gives 103 = .ok (.getfield 33, 3) := by decide +kernel
theorem dX6_gives_106 : decode cX6_gives 106 = .ok (.iload_n 2, 1) := by decide +kernel
theorem dX6_gives_107 : decode cX6_gives 107 = .ok (.iload_n 3, 1) := by decide +kernel
theorem dX6_gives_108 : decode cX6_gives 108 = .ok (.iload 4, 2) := by decide +kernel
theorem dX6_gives_110 : decode cX6_gives 110 = .ok (.invokevirtual 132, 3) := by decide +kernel
theorem dX6_gives_113 : decode cX6_gives 113 = .ok (.aload_n 0, 1) := by decide +kernel
theorem dX6_gives_114 : decode cX6_gives 114 = .ok (.getfield 33, 3) := by decide +kernel
theorem dX6_gives_117 : decode cX6_gives 117 = .ok (.iload_n 2, 1) := by decide +kernel
theorem dX6_gives_118 : decode cX6_gives 118 = .ok (.iload_n 3, 1) := by decide +kernel
theorem dX6_gives_119 : decode cX6_gives 119 = .ok (.invokevirtual 102, 3) := by decide +kernel
theorem dX6_gives_122 : decode cX6_gives 122 = .ok (.ireturn, 1) := by decide +kernel
theorem dX6_burns_0 : decode cX6_burns 0 = .ok (.aload_n 0, 1) := by decide +kernel
theorem dX6_burns_1 : decode cX6_burns 1 = .ok (.getfield 33, 3) := by decide +kernel
theorem dX6_burns_4 : decode cX6_burns 4 = .ok (.iload_n 1, 1) := by decide +kernel
theorem dX6_burns_5 : decode cX6_burns 5 = .ok (.invokevirtual 98, 3) := by decide +kernel
theorem dX6_burns_8 : decode cX6_burns 8 = .ok (.ifCond .ne 5, 3) := by decide +kernel
theorem dX6_burns_11 : decode cX6_burns 11 = .ok (.iconst (-1), 1) := by decide +kernel
theorem dX6_burns_12 : decode cX6_burns 12 = .ok (.ireturn, 1) := by decide +kernel
theorem dX6_burns_13 : decode cX6_burns 13 = .ok (.aload_n 0, 1) := by decide +kernel
theorem dX6_burns_14 : decode cX6_burns 14 = .ok (.getfield 33, 3) := by decide +kernel
theorem dX6_burns_17 : decode cX6_burns 17 = .ok (.iload_n 1, 1) := by decide +kernel
theorem dX6_burns_18 : decode cX6_burns 18 = .ok (.invokevirtual 106, 3) := by decide +kernel
theorem dX6_burns_21 : decode cX6_burns 21 = .ok (.istore_n 2, 1) := by decide +kernel
theorem dX6_burns_22 : decode cX6_burns 22 = .ok (.iconst 0, 1) := by decide +kernel
theorem dX6_burns_23 : decode cX6_burns 23 = .ok (.istore_n 3, 1) := by decide +kernel
theorem dX6_burns_24 : decode cX6_burns 24 = .ok (.iload_n 3, 1) := by decide +kernel
theorem dX6_burns_25 : decode cX6_burns 25 = .ok (.iconst 5, 1) := by decide +kernel
theorem dX6_burns_26 : decode cX6_burns 26 = .ok (.if_icmp .ge 28, 3) := by decide +kernel
theorem dX6_burns_29 : decode cX6_burns 29 = .ok (.aload_n 0, 1) := by decide +kernel
theorem dX6_burns_30 : decode cX6_burns 30 = .ok (.getfield 33, 3) := by decide +kernel
theorem dX6_burns_33 : decode cX6_burns 33 = .ok (.iload_n 1, 1) := by decide +kernel
theorem dX6_burns_34 : decode cX6_burns 34 = .ok (.iload_n 3, 1) := by decide +kernel
theorem dX6_burns_35 : decode cX6_burns 35 = .ok (.aload_n 0, 1) := by decide +kernel
theorem dX6_burns_36 : decode cX6_burns 36 = .ok (.getfield 33, 3) := by decide +kernel
theorem dX6_burns_39 : decode cX6_burns 39 = .ok (.iload_n 1, 1) := by decide +kernel
theorem dX6_burns_40 : decode cX6_burns 40 = .ok (.iload_n 3, 1) := by decide +kernel
theorem dX6_burns_41 : decode cX6_burns 41 = .ok (.invokevirtual 102, 3) := by decide +kernel
theorem dX6_burns_44 : decode cX6_burns 44 = .ok (.ineg, 1) := by decide +kernel
theorem dX6_burns_45 : decode cX6_burns 45 = .ok (.invokevirtual 132, 3) := by decide +kernel
theorem dX6_burns_48 : decode cX6_burns 48 = .ok (.iinc 3 1, 3) := by decide +kernel
theorem dX6_burns_51 : decode cX6_burns 51 = .ok (.goto (-27), 3) := by decide +kernel
theorem dX6_burns_54 : decode cX6_burns 54 = .ok (.iload_n 2, 1) := by decide +kernel
theorem dX6_burns_55 : decode cX6_burns 55 = .ok (.ireturn, 1) := by decide +kernel
theorem dX6_plume_0 : decode cX6_plume 0 = .ok (.iload_n 1, 1) := by decide +kernel
theorem dX6_plume_1 : decode cX6_plume 1 = .ok (.ifCond .lt 23, 3) := by decide +kernel
theorem dX6_plume_4 : decode cX6_plume 4 = .ok (.iload_n 1, 1) := by decide +kernel
theorem dX6_plume_5 : decode cX6_plume 5 = .ok (.aload_n 0, 1) := by decide +kernel
theorem dX6_plume_6 : decode cX6_plume 6 = .ok (.getfield 33, 3) := by decide +kernel
theorem dX6_plume_9 : decode cX6_plume 9 = .ok (.getfield 129, 3) := by decide +kernel
theorem dX6_plume_12 : decode cX6_plume 12 = .ok (.if_icmp .ge 12, 3) := by decide +kernel
theorem dX6_plume_15 : decode cX6_plume 15 = .ok (.iload_n 2, 1) := by decide +kernel
theorem dX6_plume_16 : decode cX6_plume 16 = .ok (.ifCond .lt 8, 3) := by decide +kernel
theorem dX6_plume_19 : decode cX6_plume 19 = .ok (.iload_n 2, 1) := by decide +kernel
theorem dX6_plume_20 : decode cX6_plume 20 = .ok (.iconst 1, 1) := by decide +kernel
theorem dX6_plume_21 : decode cX6_plume 21 = .ok (.if_icmp .le 5, 3) := by decide +kernel
theorem dX6_plume_24 : decode cX6_plume 24 = .ok (.iconst (-1), 1) := by decide +kernel
theorem dX6_plume_25 : decode cX6_plume 25 = .ok (.ireturn, 1) := by decide +kernel
theorem dX6_plume_26 : decode cX6_plume 26 = .ok (.iload_n 2, 1) := by decide +kernel
theorem dX6_plume_27 : decode cX6_plume 27 = .ok (.ifCond .ne 15, 3) := by decide +kernel
theorem dX6_plume_30 : decode cX6_plume 30 = .ok (.aload_n 0, 1) := by decide +kernel
theorem dX6_plume_31 : decode cX6_plume 31 = .ok (.getfield 33, 3) := by decide +kernel
theorem dX6_plume_34 : decode cX6_plume 34 = .ok (.getfield 140, 3) := by decide +kernel
theorem dX6_plume_37 : decode cX6_plume 37 = .ok (.iload_n 1, 1) := by decide +kernel
theorem dX6_plume_38 : decode cX6_plume 38 = .ok (.iaload, 1) := by decide +kernel
theorem dX6_plume_39 : decode cX6_plume 39 = .ok (.goto 20, 3) := by decide +kernel
theorem dX6_plume_42 : decode cX6_plume 42 = .ok (.aload_n 0, 1) := by decide +kernel
end
section
theorem dX6_plume_43 : decode cX6_plume 43 = .ok (.getfield 26, 3) := by decide +kernel
theorem dX6_plume_46 : decode cX6_plume 46 = .ok (.getfield 116, 3) := by decide +kernel
theorem dX6_plume_49 : decode cX6_plume 49 = .ok (.aload_n 0, 1) := by decide +kernel
theorem dX6_plume_50 : decode cX6_plume 50 = .ok (.getfield 33, 3) := by decide +kernel
theorem dX6_plume_53 : decode cX6_plume 53 = .ok (.getfield 143, 3) := by decide +kernel
theorem dX6_plume_56 : decode cX6_plume 56 = .ok (.iload_n 1, 1) := by decide +kernel
theorem dX6_plume_57 : decode cX6_plume 57 = .ok (.iaload, 1) := by decide +kernel
theorem dX6_plume_58 : decode cX6_plume 58 = .ok (.iaload, 1) := by decide +kernel
theorem dX6_plume_59 : decode cX6_plume 59 = .ok (.ireturn, 1) := by decide +kernel
theorem dX6_fog_0 : decode cX6_fog 0 = .ok (.iload_n 1, 1) := by decide +kernel
theorem dX6_fog_1 : decode cX6_fog 1 = .ok (.ifCond .lt 8, 3) := by decide +kernel
theorem dX6_fog_4 : decode cX6_fog 4 = .ok (.iload_n 1, 1) := by decide +kernel
theorem dX6_fog_5 : decode cX6_fog 5 = .ok (.iconst 5, 1) := by decide +kernel
theorem dX6_fog_6 : decode cX6_fog 6 = .ok (.if_icmp .le 5, 3) := by decide +kernel
theorem dX6_fog_9 : decode cX6_fog 9 = .ok (.iconst (-1), 1) := by decide +kernel
theorem dX6_fog_10 : decode cX6_fog 10 = .ok (.ireturn, 1) := by decide +kernel
theorem dX6_fog_11 : decode cX6_fog 11 = .ok (.aload_n 0, 1) := by decide +kernel
theorem dX6_fog_12 : decode cX6_fog 12 = .ok (.getfield 33, 3) := by decide +kernel
theorem dX6_fog_15 : decode cX6_fog 15 = .ok (.getfield 151, 3) := by decide +kernel
theorem dX6_fog_18 : decode cX6_fog 18 = .ok (.istore_n 2, 1) := by decide +kernel
theorem dX6_fog_19 : decode cX6_fog 19 = .ok (.aload_n 0, 1) := by decide +kernel
theorem dX6_fog_20 : decode cX6_fog 20 = .ok (.getfield 33, 3) := by decide +kernel
theorem dX6_fog_23 : decode cX6_fog 23 = .ok (.iload_n 1, 1) := by decide +kernel
theorem dX6_fog_24 : decode cX6_fog 24 = .ok (.putfield 151, 3) := by decide +kernel
theorem dX6_fog_27 : decode cX6_fog 27 = .ok (.iload_n 2, 1) := by decide +kernel
theorem dX6_fog_28 : decode cX6_fog 28 = .ok (.ireturn, 1) := by decide +kernel
theorem dX6_says_0 : decode cX6_says 0 = .ok (.aload_n 0, 1) := by decide +kernel
theorem dX6_says_1 : decode cX6_says 1 = .ok (.getfield 33, 3) := by decide +kernel
theorem dX6_says_4 : decode cX6_says 4 = .ok (.iload_n 1, 1) := by decide +kernel
theorem dX6_says_5 : decode cX6_says 5 = .ok (.invokevirtual 98, 3) := by decide +kernel
theorem dX6_says_8 : decode cX6_says 8 = .ok (.ifCond .eq 25, 3) := by decide +kernel
theorem dX6_says_11 : decode cX6_says 11 = .ok (.iload_n 2, 1) := by decide +kernel
theorem dX6_says_12 : decode cX6_says 12 = .ok (.iload_n 3, 1) := by decide +kernel
theorem dX6_says_13 : decode cX6_says 13 = .ok (.iload 4, 2) := by decide +kernel
theorem dX6_says_15 : decode cX6_says 15 = .ok (.invokestatic 154, 3) := by decide +kernel
theorem dX6_says_18 : decode cX6_says 18 = .ok (.ifCond .eq 15, 3) := by decide +kernel
theorem dX6_says_21 : decode cX6_says 21 = .ok (.iload 5, 2) := by decide +kernel
theorem dX6_says_23 : decode cX6_says 23 = .ok (.iconst (-1), 1) := by decide +kernel
theorem dX6_says_24 : decode cX6_says 24 = .ok (.if_icmp .lt 9, 3) := by decide +kernel
theorem dX6_says_27 : decode cX6_says 27 = .ok (.iload 5, 2) := by decide +kernel
theorem dX6_says_29 : decode cX6_says 29 = .ok (.iconst 3, 1) := by decide +kernel
theorem dX6_says_30 : decode cX6_says 30 = .ok (.if_icmp .lt 5, 3) := by decide +kernel
theorem dX6_says_33 : decode cX6_says 33 = .ok (.iconst (-1), 1) := by decide +kernel
theorem dX6_says_34 : decode cX6_says 34 = .ok (.ireturn, 1) := by decide +kernel
theorem dX6_says_35 : decode cX6_says 35 = .ok (.aload_n 0, 1) := by decide +kernel
theorem dX6_says_36 : decode cX6_says 36 = .ok (.getfield 46, 3) := by decide +kernel
theorem dX6_says_39 : decode cX6_says 39 = .ok (.iload_n 2, 1) := by decide +kernel
theorem dX6_says_40 : decode cX6_says 40 = .ok (.iload_n 3, 1) := by decide +kernel
theorem dX6_says_41 : decode cX6_says 41 = .ok (.iload 4, 2) := by decide +kernel
theorem dX6_says_43 : decode cX6_says 43 = .ok (.invokevirtual 158, 3) := by decide +kernel
theorem dX6_says_46 : decode cX6_says 46 = .ok (.aload_n 0, 1) := by decide +kernel
theorem dX6_says_47 : decode cX6_says 47 = .ok (.getfield 33, 3) := by decide +kernel
theorem dX6_says_50 : decode cX6_says 50 = .ok (.iload_n 1, 1) := by decide +kernel
theorem dX6_says_51 : decode cX6_says 51 = .ok (.aload_n 0, 1) := by decide +kernel
theorem dX6_says_52 : decode cX6_says 52 = .ok (.getfield 46, 3) := by decide +kernel
theorem dX6_says_55 : decode cX6_says 55 = .ok (.getfield 161, 3) := by decide +kernel
theorem dX6_says_58 : decode cX6_says 58 = .ok (.invokevirtual 164, 3) := by decide +kernel
theorem dX6_says_61 : decode cX6_says 61 = .ok (.aload_n 0, 1) := by decide +kernel
theorem dX6_says_62 : decode cX6_says 62 = .ok (.getfield 46, 3) := by decide +kernel
theorem dX6_says_65 : decode cX6_says 65 = .ok (.aload_n 0, 1) := by decide +kernel
theorem dX6_says_66 : decode cX6_says 66 = .ok (.getfield 26, 3) := by decide +kernel
theorem dX6_says_69 : decode cX6_says 69 = .ok (.bipush 7, 2) := by decide +kernel
theorem dX6_says_71 : decode cX6_says 71 = .ok (.invokevirtual 168, 3) := by decide +kernel
theorem dX6_says_74 : decode cX6_says 74 = .ok (.istore 6, 2) := by decide +kernel
theorem dX6_says_76 : decode cX6_says 76 = .ok (.iload 6, 2) := by decide +kernel
theorem dX6_says_78 : decode cX6_says 78 = .ok (.bipush (-9), 2) := by decide +kernel
theorem dX6_says_80 : decode cX6_says 80 = .ok (.if_icmp .ne 6, 3) := by decide +kernel
theorem dX6_says_83 : decode cX6_says 83 = .ok (.bipush (-9), 2) := by decide +kernel
theorem dX6_says_85 : decode cX6_says 85 = .ok (.ireturn, 1) := by decide +kernel
theorem dX6_says_86 : decode cX6_says 86 = .ok (.iload 5, 2) := by decide +kernel
theorem dX6_says_88 : decode cX6_says 88 = .ok (.ifCond .ge 6, 3) := by decide +kernel
theorem dX6_says_91 : decode cX6_says 91 = .ok (.iload 6, 2) := by decide +kernel
theorem dX6_says_93 : decode cX6_says 93 = .ok (.ireturn, 1) := by decide +kernel
theorem dX6_says_94 : decode cX6_says 94 = .ok (.iload 5, 2) := by decide +kernel
theorem dX6_says_96 : decode cX6_says 96 = .ok (.aload_n 0, 1) := by decide +kernel
theorem dX6_says_97 : decode cX6_says 97 = .ok (.getfield 46, 3) := by decide +kernel
theorem dX6_says_100 : decode cX6_says 100 = .ok (.getfield 172, 3) := by decide +kernel
theorem dX6_says_103 : decode cX6_says 103 = .ok (.if_icmp .ge 16, 3) := by decide +kernel
theorem dX6_says_106 : decode cX6_says 106 = .ok (.aload_n 0, 1) := by decide +kernel
theorem dX6_says_107 : decode cX6_says 107 = .ok (.getfield 46, 3) := by decide +kernel
theorem dX6_says_110 : decode cX6_says 110 = .ok (.getfield 175, 3) := by decide +kernel
theorem dX6_says_113 : decode cX6_says 113 = .ok (.iload 5, 2) := by decide +kernel
theorem dX6_says_115 : decode cX6_says 115 = .ok (.iaload, 1) := by decide +kernel
theorem dX6_says_116 : decode cX6_says 116 = .ok (.goto 5, 3) := by decide +kernel
theorem dX6_says_119 : decode cX6_says 119 = .ok (.bipush (-5), 2) := by decide +kernel
theorem dX6_says_121 : decode cX6_says 121 = .ok (.ireturn, 1) := by decide +kernel
theorem dX6_nearest_0 : decode cX6_nearest 0 = .ok (.aload_n 0, 1) := by decide +kernel
theorem dX6_nearest_1 : decode cX6_nearest 1 = .ok (.getfield 33, 3) := by decide +kernel
theorem dX6_nearest_4 : decode cX6_nearest 4 = .ok (.iload_n 1, 1) := by decide +kernel
theorem dX6_nearest_5 : decode cX6_nearest 5 = .ok (.invokevirtual 98, 3) := by decide +kernel
theorem dX6_nearest_8 : decode cX6_nearest 8 = .ok (.ifCond .eq 13, 3) := by decide +kernel
theorem dX6_nearest_11 : decode cX6_nearest 11 = .ok (.iload_n 2, 1) := by decide +kernel
theorem dX6_nearest_12 : decode cX6_nearest 12 = .ok (.iload_n 3, 1) := by decide +kernel
theorem dX6_nearest_13 : decode cX6_nearest 13 = .ok (.iload 4, 2) := by decide +kernel
theorem dX6_nearest_15 : decode cX6_nearest 15 = .ok (.invokestatic 154, 3) := by decide +kernel
theorem dX6_nearest_18 : decode cX6_nearest 18 = .ok (.ifCond .ne 5, 3) := by decide +kernel
theorem dX6_nearest_21 : decode cX6_nearest 21 = .ok (.iconst (-1), 1) := by decide +kernel
theorem dX6_nearest_22 : decode cX6_nearest 22 = .ok (.ireturn, 1) := by decide +kernel
theorem dX6_nearest_23 : decode cX6_nearest 23 = .ok (.aload_n 0, 1) := by decide +kernel
theorem dX6_nearest_24 : decode cX6_nearest 24 = .ok (.getfield 46, 3) := by decide +kernel
theorem dX6_nearest_27 : decode cX6_nearest 27 = .ok (.iload_n 2, 1) := by decide +kernel
theorem dX6_nearest_28 : decode cX6_nearest 28 = .ok (.iload_n 3, 1) := by decide +kernel
theorem dX6_nearest_29 : decode cX6_nearest 29 = .ok (.iload 4, 2) := by decide +kernel
theorem dX6_nearest_31 : decode cX6_nearest 31 = .ok (.invokevirtual 158, 3) := by decide +kernel
theorem dX6_nearest_34 : decode cX6_nearest 34 = .ok (.aload_n 0, 1) := by decide +kernel
theorem dX6_nearest_35 : decode cX6_nearest 35 = .ok (.getfield 33, 3) := by decide +kernel
theorem dX6_nearest_38 : decode cX6_nearest 38 = .ok (.iload_n 1, 1) := by decide +kernel
theorem dX6_nearest_39 : decode cX6_nearest 39 = .ok (.aload_n 0, 1) := by decide +kernel
theorem dX6_nearest_40 : decode cX6_nearest 40 = .ok (.getfield 46, 3) := by decide +kernel
theorem dX6_nearest_43 : decode cX6_nearest 43 = .ok (.getfield 161, 3) := by decide +kernel
theorem dX6_nearest_46 : decode cX6_nearest 46 = .ok (.invokevirtual 164, 3) := by decide +kernel
theorem dX6_nearest_49 : decode cX6_nearest 49 = .ok (.aload_n 0, 1) := by decide +kernel
theorem dX6_nearest_50 : decode cX6_nearest 50 = .ok (.getfield 46, 3) := by decide +kernel
theorem dX6_nearest_53 : decode cX6_nearest 53 = .ok (.aload_n 0, 1) := by decide +kernel
theorem dX6_nearest_54 : decode cX6_nearest 54 = .ok (.getfield 26, 3) := by decide +kernel
theorem dX6_nearest_57 : decode cX6_nearest 57 = .ok (.invokevirtual 178, 3) := by decide +kernel
theorem dX6_nearest_60 : decode cX6_nearest 60 = .ok (.ireturn, 1) := by decide +kernel
theorem dX6_reads_0 : decode cX6_reads 0 = .ok (.iload_n 1, 1) := by decide +kernel
theorem dX6_reads_1 : decode cX6_reads 1 = .ok (.invokestatic 182, 3) := by decide +kernel
theorem dX6_reads_4 : decode cX6_reads 4 = .ok (.ifCond .eq 10, 3) := by decide +kernel
theorem dX6_reads_7 : decode cX6_reads 7 = .ok (.iload_n 2, 1) := by decide +kernel
theorem dX6_reads_8 : decode cX6_reads 8 = .ok (.invokestatic 182, 3) := by decide +kernel
theorem dX6_reads_11 : decode cX6_reads 11 = .ok (.ifCond .ne 5, 3) := by decide +kernel
theorem dX6_reads_14 : decode cX6_reads 14 = .ok (.iconst (-1), 1) := by decide +kernel
theorem dX6_reads_15 : decode cX6_reads 15 = .ok (.ireturn, 1) := by decide +kernel
theorem dX6_reads_16 : decode cX6_reads 16 = .ok (.aload_n 0, 1) := by decide +kernel
theorem dX6_reads_17 : decode cX6_reads 17 = .ok (.getfield 33, 3) := by decide +kernel
theorem dX6_reads_20 : decode cX6_reads 20 = .ok (.iload_n 1, 1) := by decide +kernel
theorem dX6_reads_21 : decode cX6_reads 21 = .ok (.iload_n 2, 1) := by decide +kernel
theorem dX6_reads_22 : decode cX6_reads 22 = .ok (.invokevirtual 185, 3) := by decide +kernel
theorem dX6_reads_25 : decode cX6_reads 25 = .ok (.ireturn, 1) := by decide +kernel
theorem dX6_means_0 : decode cX6_means 0 = .ok (.iload_n 1, 1) := by decide +kernel
theorem dX6_means_1 : decode cX6_means 1 = .ok (.invokestatic 182, 3) := by decide +kernel
theorem dX6_means_4 : decode cX6_means 4 = .ok (.ifCond .ne 5, 3) := by decide +kernel
theorem dX6_means_7 : decode cX6_means 7 = .ok (.iconst (-1), 1) := by decide +kernel
theorem dX6_means_8 : decode cX6_means 8 = .ok (.ireturn, 1) := by decide +kernel
theorem dX6_means_9 : decode cX6_means 9 = .ok (.aload_n 0, 1) := by decide +kernel
theorem dX6_means_10 : decode cX6_means 10 = .ok (.getfield 26, 3) := by decide +kernel
theorem dX6_means_13 : decode cX6_means 13 = .ok (.iload_n 1, 1) := by decide +kernel
theorem dX6_means_14 : decode cX6_means 14 = .ok (.invokevirtual 188, 3) := by decide +kernel
theorem dX6_means_17 : decode cX6_means 17 = .ok (.ireturn, 1) := by decide +kernel
theorem dX6_chain_0 : decode cX6_chain 0 = .ok (.iload_n 1, 1) := by decide +kernel
theorem dX6_chain_1 : decode cX6_chain 1 = .ok (.invokestatic 191, 3) := by decide +kernel
theorem dX6_chain_4 : decode cX6_chain 4 = .ok (.ifCond .eq 22, 3) := by decide +kernel
theorem dX6_chain_7 : decode cX6_chain 7 = .ok (.iload_n 2, 1) := by decide +kernel
theorem dX6_chain_8 : decode cX6_chain 8 = .ok (.iconst 1, 1) := by decide +kernel
theorem dX6_chain_9 : decode cX6_chain 9 = .ok (.if_icmp .lt 17, 3) := by decide +kernel
theorem dX6_chain_12 : decode cX6_chain 12 = .ok (.iload_n 2, 1) := by decide +kernel
theorem dX6_chain_13 : decode cX6_chain 13 = .ok (.iconst 4, 1) := by decide +kernel
theorem dX6_chain_14 : decode cX6_chain 14 = .ok (.if_icmp .gt 12, 3) := by decide +kernel
theorem dX6_chain_17 : decode cX6_chain 17 = .ok (.iload_n 3, 1) := by decide +kernel
theorem dX6_chain_18 : decode cX6_chain 18 = .ok (.ifCond .lt 8, 3) := by decide +kernel
theorem dX6_chain_21 : decode cX6_chain 21 = .ok (.iload_n 3, 1) := by decide +kernel
theorem dX6_chain_22 : decode cX6_chain 22 = .ok (.iconst 1, 1) := by decide +kernel
theorem dX6_chain_23 : decode cX6_chain 23 = .ok (.if_icmp .le 7, 3) := by decide +kernel
theorem dX6_chain_26 : decode cX6_chain 26 = .ok (.ldc2_w 194, 3) := by decide +kernel
theorem dX6_chain_29 : decode cX6_chain 29 = .ok (.lreturn, 1) := by decide +kernel
theorem dX6_chain_30 : decode cX6_chain 30 = .ok (.aload_n 0, 1) := by decide +kernel
theorem dX6_chain_31 : decode cX6_chain 31 = .ok (.getfield 26, 3) := by decide +kernel
theorem dX6_chain_34 : decode cX6_chain 34 = .ok (.iload_n 1, 1) := by decide +kernel
theorem dX6_chain_35 : decode cX6_chain 35 = .ok (.invokevirtual 196, 3) := by decide +kernel
theorem dX6_chain_38 : decode cX6_chain 38 = .ok (.iconst (-1), 1) := by decide +kernel
theorem dX6_chain_39 : decode cX6_chain 39 = .ok (.if_icmp .ne 10, 3) := by decide +kernel
theorem dX6_chain_42 : decode cX6_chain 42 = .ok (.lconst 0, 1) := by decide +kernel
theorem dX6_chain_43 : decode cX6_chain 43 = .ok (.lconst 1, 1) := by decide +kernel
theorem dX6_chain_44 : decode cX6_chain 44 = .ok (.iload_n 3, 1) := by decide +kernel
theorem dX6_chain_45 : decode cX6_chain 45 = .ok (.invokestatic 199, 3) := by decide +kernel
theorem dX6_chain_48 : decode cX6_chain 48 = .ok (.lreturn, 1) := by decide +kernel
theorem dX6_chain_49 : decode cX6_chain 49 = .ok (.aload_n 0, 1) := by decide +kernel
theorem dX6_chain_50 : decode cX6_chain 50 = .ok (.getfield 53, 3) := by decide +kernel
theorem dX6_chain_53 : decode cX6_chain 53 = .ok (.iload_n 1, 1) := by decide +kernel
theorem dX6_chain_54 : decode cX6_chain 54 = .ok (.invokevirtual 203, 3) := by decide +kernel
theorem dX6_chain_57 : decode cX6_chain 57 = .ok (.lconst 1, 1) := by decide +kernel
theorem dX6_chain_58 : decode cX6_chain 58 = .ok (.lstore 4, 2) := by decide +kernel
theorem dX6_chain_60 : decode cX6_chain 60 = .ok (.iconst 0, 1) := by decide +kernel
theorem dX6_chain_61 : decode cX6_chain 61 = .ok (.istore 6, 2) := by decide +kernel
theorem dX6_chain_63 : decode cX6_chain 63 = .ok (.iload 6, 2) := by decide +kernel
theorem dX6_chain_65 : decode cX6_chain 65 = .ok (.iload_n 2, 1) := by decide +kernel
theorem dX6_chain_66 : decode cX6_chain 66 = .ok (.if_icmp .ge 32, 3) := by decide +kernel
theorem dX6_chain_69 : decode cX6_chain 69 = .ok (.aload_n 0, 1) := by decide +kernel
theorem dX6_chain_70 : decode cX6_chain 70 = .ok (.getfield 53, 3) := by decide +kernel
theorem dX6_chain_73 : decode cX6_chain 73 = .ok (.aload_n 0, 1) := by decide +kernel
theorem dX6_chain_74 : decode cX6_chain 74 = .ok (.getfield 26, 3) := by decide +kernel
theorem dX6_chain_77 : decode cX6_chain 77 = .ok (.aload_n 0, 1) := by decide +kernel
theorem dX6_chain_78 : decode cX6_chain 78 = .ok (.getfield 33, 3) := by decide +kernel
theorem dX6_chain_81 : decode cX6_chain 81 = .ok (.invokevirtual 206, 3) := by decide +kernel
theorem dX6_chain_84 : decode cX6_chain 84 = .ok (.lload 4, 2) := by decide +kernel
theorem dX6_chain_86 : decode cX6_chain 86 = .ok (.ldc2_w 210, 3) := by decide +kernel
theorem dX6_chain_89 : decode cX6_chain 89 = .ok (.lmul, 1) := by decide +kernel
theorem dX6_chain_90 : decode cX6_chain 90 = .ok (.lstore 4, 2) := by decide +kernel
theorem dX6_chain_92 : decode cX6_chain 92 = .ok (.iinc 6 1, 3) := by decide +kernel
theorem dX6_chain_95 : decode cX6_chain 95 = .ok (.goto (-32), 3) := by decide +kernel
theorem dX6_chain_98 : decode cX6_chain 98 = .ok (.aload_n 0, 1) := by decide +kernel
theorem dX6_chain_99 : decode cX6_chain 99 = .ok (.getfield 53, 3) := by decide +kernel
theorem dX6_chain_102 : decode cX6_chain 102 = .ok (.getfield 212, 3) := by decide +kernel
theorem dX6_chain_105 : decode cX6_chain 105 = .ok (.iload_n 1, 1) := by decide +kernel
theorem dX6_chain_106 : decode cX6_chain 106 = .ok (.laload, 1) := by decide +kernel
theorem dX6_chain_107 : decode cX6_chain 107 = .ok (.lload 4, 2) := by decide +kernel
theorem dX6_chain_109 : decode cX6_chain 109 = .ok (.iload_n 3, 1) := by decide +kernel
theorem dX6_chain_110 : decode cX6_chain 110 = .ok (.invokestatic 199, 3) := by decide +kernel
theorem dX6_chain_113 : decode cX6_chain 113 = .ok (.lreturn, 1) := by decide +kernel
theorem dX6_who_0 : decode cX6_who 0 = .ok (.iload_n 1, 1) := by decide +kernel
theorem dX6_who_1 : decode cX6_who 1 = .ok (.invokestatic 182, 3) := by decide +kernel
theorem dX6_who_4 : decode cX6_who 4 = .ok (.ifCond .eq 23, 3) := by decide +kernel
theorem dX6_who_7 : decode cX6_who 7 = .ok (.aload_n 0, 1) := by decide +kernel
theorem dX6_who_8 : decode cX6_who 8 = .ok (.getfield 33, 3) := by decide +kernel
theorem dX6_who_11 : decode cX6_who 11 = .ok (.iload_n 2, 1) := by decide +kernel
theorem dX6_who_12 : decode cX6_who 12 = .ok (.invokevirtual 98, 3) := by decide +kernel
theorem dX6_who_15 : decode cX6_who 15 = .ok (.ifCond .eq 12, 3) := by decide +kernel
theorem dX6_who_18 : decode cX6_who 18 = .ok (.iload_n 3, 1) := by decide +kernel
theorem dX6_who_19 : decode cX6_who 19 = .ok (.ifCond .lt 8, 3) := by decide +kernel
theorem dX6_who_22 : decode cX6_who 22 = .ok (.iload_n 3, 1) := by decide +kernel
theorem dX6_who_23 : decode cX6_who 23 = .ok (.iconst 1, 1) := by decide +kernel
theorem dX6_who_24 : decode cX6_who 24 = .ok (.if_icmp .le 5, 3) := by decide +kernel
theorem dX6_who_27 : decode cX6_who 27 = .ok (.iconst (-1), 1) := by decide +kernel
theorem dX6_who_28 : decode cX6_who 28 = .ok (.ireturn, 1) := by decide +kernel
theorem dX6_who_29 : decode cX6_who 29 = .ok (.iconst 0, 1) := by decide +kernel
theorem dX6_who_30 : decode cX6_who 30 = .ok (.istore 4, 2) := by decide +kernel
theorem dX6_who_32 : decode cX6_who 32 = .ok (.iconst 0, 1) := by decide +kernel
theorem dX6_who_33 : decode cX6_who 33 = .ok (.istore 5, 2) := by decide +kernel
theorem dX6_who_35 : decode cX6_who 35 = .ok (.iload 5, 2) := by decide +kernel
theorem dX6_who_37 : decode cX6_who 37 = .ok (.aload_n 0, 1) := by decide +kernel
theorem dX6_who_38 : decode cX6_who 38 = .ok (.getfield 33, 3) := by decide +kernel
theorem dX6_who_41 : decode cX6_who 41 = .ok (.getfield 216, 3) := by decide +kernel
theorem dX6_who_44 : decode cX6_who 44 = .ok (.if_icmp .ge 21, 3) := by decide +kernel
theorem dX6_who_47 : decode cX6_who 47 = .ok (.iload 4, 2) := by decide +kernel
theorem dX6_who_49 : decode cX6_who 49 = .ok (.aload_n 0, 1) := by decide +kernel
theorem dX6_who_50 : decode cX6_who 50 = .ok (.iload 5, 2) := by decide +kernel
theorem dX6_who_52 : decode cX6_who 52 = .ok (.iload_n 1, 1) := by decide +kernel
theorem dX6_who_53 : decode cX6_who 53 = .ok (.invokevirtual 219, 3) := by decide +kernel
theorem dX6_who_56 : decode cX6_who 56 = .ok (.iadd, 1) := by decide +kernel
theorem dX6_who_57 : decode cX6_who 57 = .ok (.istore 4, 2) := by decide +kernel
theorem dX6_who_59 : decode cX6_who 59 = .ok (.iinc 5 1, 3) := by decide +kernel
theorem dX6_who_62 : decode cX6_who 62 = .ok (.goto (-27), 3) := by decide +kernel
theorem dX6_who_65 : decode cX6_who 65 = .ok (.iload 4, 2) := by decide +kernel
theorem dX6_who_67 : decode cX6_who 67 = .ok (.ifCond .ne 6, 3) := by decide +kernel
theorem dX6_who_70 : decode cX6_who 70 = .ok (.bipush (-2), 2) := by decide +kernel
theorem dX6_who_72 : decode cX6_who 72 = .ok (.ireturn, 1) := by decide +kernel
theorem dX6_who_73 : decode cX6_who 73 = .ok (.aload_n 0, 1) := by decide +kernel
theorem dX6_who_74 : decode cX6_who 74 = .ok (.iload_n 2, 1) := by decide +kernel
theorem dX6_who_75 : decode cX6_who 75 = .ok (.iload_n 1, 1) := by decide +kernel
theorem dX6_who_76 : decode cX6_who 76 = .ok (.invokevirtual 219, 3) := by decide +kernel
theorem dX6_who_79 : decode cX6_who 79 = .ok (.i2l, 1) := by decide +kernel
theorem dX6_who_80 : decode cX6_who 80 = .ok (.iload 4, 2) := by decide +kernel
theorem dX6_who_82 : decode cX6_who 82 = .ok (.i2l, 1) := by decide +kernel
theorem dX6_who_83 : decode cX6_who 83 = .ok (.iload_n 3, 1) := by decide +kernel
theorem dX6_who_84 : decode cX6_who 84 = .ok (.invokestatic 199, 3) := by decide +kernel
theorem dX6_who_87 : decode cX6_who 87 = .ok (.l2i, 1) := by decide +kernel
theorem dX6_who_88 : decode cX6_who 88 = .ok (.ireturn, 1) := by decide +kernel
theorem dX6_days_0 : decode cX6_days 0 = .ok (.aload_n 0, 1) := by decide +kernel
theorem dX6_days_1 : decode cX6_days 1 = .ok (.getfield 33, 3) := by decide +kernel
theorem dX6_days_4 : decode cX6_days 4 = .ok (.iload_n 1, 1) := by decide +kernel
theorem dX6_days_5 : decode cX6_days 5 = .ok (.invokevirtual 98, 3) := by decide +kernel
theorem dX6_days_8 : decode cX6_days 8 = .ok (.ifCond .ne 5, 3) := by decide +kernel
theorem dX6_days_11 : decode cX6_days 11 = .ok (.iconst (-1), 1) := by decide +kernel
theorem dX6_days_12 : decode cX6_days 12 = .ok (.ireturn, 1) := by decide +kernel
theorem dX6_days_13 : decode cX6_days 13 = .ok (.aload_n 0, 1) := by decide +kernel
theorem dX6_days_14 : decode cX6_days 14 = .ok (.getfield 33, 3) := by decide +kernel
theorem dX6_days_17 : decode cX6_days 17 = .ok (.iload_n 1, 1) := by decide +kernel
theorem dX6_days_18 : decode cX6_days 18 = .ok (.aload_n 0, 1) := by decide +kernel
theorem dX6_days_19 : decode cX6_days 19 = .ok (.getfield 57, 3) := by decide +kernel
theorem dX6_days_22 : decode cX6_days 22 = .ok (.invokevirtual 164, 3) := by decide +kernel
theorem dX6_days_25 : decode cX6_days 25 = .ok (.iconst 0, 1) := by decide +kernel
theorem dX6_days_26 : decode cX6_days 26 = .ok (.istore_n 2, 1) := by decide +kernel
theorem dX6_days_27 : decode cX6_days 27 = .ok (.iload_n 2, 1) := by decide +kernel
theorem dX6_days_28 : decode cX6_days 28 = .ok (.bipush 30, 2) := by decide +kernel
theorem dX6_days_30 : decode cX6_days 30 = .ok (.if_icmp .ge 40, 3) := by decide +kernel
theorem dX6_days_33 : decode cX6_days 33 = .ok (.aload_n 0, 1) := by decide +kernel
theorem dX6_days_34 : decode cX6_days 34 = .ok (.getfield 26, 3) := by decide +kernel
theorem dX6_days_37 : decode cX6_days 37 = .ok (.aload_n 0, 1) := by decide +kernel
theorem dX6_days_38 : decode cX6_days 38 = .ok (.getfield 57, 3) := by decide +kernel
theorem dX6_days_41 : decode cX6_days 41 = .ok (.invokevirtual 222, 3) := by decide +kernel
theorem dX6_days_44 : decode cX6_days 44 = .ok (.istore_n 3, 1) := by decide +kernel
theorem dX6_days_45 : decode cX6_days 45 = .ok (.iload_n 3, 1) := by decide +kernel
theorem dX6_days_46 : decode cX6_days 46 = .ok (.iconst (-1), 1) := by decide +kernel
theorem dX6_days_47 : decode cX6_days 47 = .ok (.if_icmp .ne 5, 3) := by decide +kernel
theorem dX6_days_50 : decode cX6_days 50 = .ok (.iload_n 2, 1) := by decide +kernel
theorem dX6_days_51 : decode cX6_days 51 = .ok (.ireturn, 1) := by decide +kernel
theorem dX6_days_52 : decode cX6_days 52 = .ok (.aload_n 0, 1) := by decide +kernel
theorem dX6_days_53 : decode cX6_days 53 = .ok (.getfield 26, 3) := by decide +kernel
theorem dX6_days_56 : decode cX6_days 56 = .ok (.iload_n 3, 1) := by decide +kernel
theorem dX6_days_57 : decode cX6_days 57 = .ok (.aload_n 0, 1) := by decide +kernel
theorem dX6_days_58 : decode cX6_days 58 = .ok (.getfield 57, 3) := by decide +kernel
theorem dX6_days_61 : decode cX6_days 61 = .ok (.invokevirtual 226, 3) := by decide +kernel
theorem dX6_days_64 : decode cX6_days 64 = .ok (.iinc 2 1, 3) := by decide +kernel
theorem dX6_days_67 : decode cX6_days 67 = .ok (.goto (-40), 3) := by decide +kernel
theorem dX6_days_70 : decode cX6_days 70 = .ok (.bipush 30, 2) := by decide +kernel
theorem dX6_days_72 : decode cX6_days 72 = .ok (.ireturn, 1) := by decide +kernel
theorem dX6_code_0 : decode cX6_code 0 = .ok (.iload_n 1, 1) := by decide +kernel
theorem dX6_code_1 : decode cX6_code 1 = .ok (.ifCond .lt 29, 3) := by decide +kernel
theorem dX6_code_4 : decode cX6_code 4 = .ok (.iload_n 1, 1) := by decide +kernel
theorem dX6_code_5 : decode cX6_code 5 = .ok (.sipush 256, 3) := by decide +kernel
theorem dX6_code_8 : decode cX6_code 8 = .ok (.if_icmp .ge 22, 3) := by decide +kernel
theorem dX6_code_11 : decode cX6_code 11 = .ok (.iload_n 2, 1) := by decide +kernel
theorem dX6_code_12 : decode cX6_code 12 = .ok (.iconst 1, 1) := by decide +kernel
theorem dX6_code_13 : decode cX6_code 13 = .ok (.if_icmp .lt 17, 3) := by decide +kernel
theorem dX6_code_16 : decode cX6_code 16 = .ok (.iload_n 2, 1) := by decide +kernel
theorem dX6_code_17 : decode cX6_code 17 = .ok (.iconst 3, 1) := by decide +kernel
theorem dX6_code_18 : decode cX6_code 18 = .ok (.if_icmp .gt 12, 3) := by decide +kernel
theorem dX6_code_21 : decode cX6_code 21 = .ok (.iload_n 3, 1) := by decide +kernel
theorem dX6_code_22 : decode cX6_code 22 = .ok (.ifCond .lt 8, 3) := by decide +kernel
theorem dX6_code_25 : decode cX6_code 25 = .ok (.iload_n 3, 1) := by decide +kernel
theorem dX6_code_26 : decode cX6_code 26 = .ok (.iconst 1, 1) := by decide +kernel
theorem dX6_code_27 : decode cX6_code 27 = .ok (.if_icmp .le 5, 3) := by decide +kernel
theorem dX6_code_30 : decode cX6_code 30 = .ok (.iconst (-1), 1) := by decide +kernel
theorem dX6_code_31 : decode cX6_code 31 = .ok (.ireturn, 1) := by decide +kernel
theorem dX6_code_32 : decode cX6_code 32 = .ok (.iload_n 1, 1) := by decide +kernel
theorem dX6_code_33 : decode cX6_code 33 = .ok (.invokestatic 229, 3) := by decide +kernel
theorem dX6_code_36 : decode cX6_code 36 = .ok (.istore 4, 2) := by decide +kernel
theorem dX6_code_38 : decode cX6_code 38 = .ok (.iconst 0, 1) := by decide +kernel
theorem dX6_code_39 : decode cX6_code 39 = .ok (.istore 5, 2) := by decide +kernel
theorem dX6_code_41 : decode cX6_code 41 = .ok (.iconst 0, 1) := by decide +kernel
theorem dX6_code_42 : decode cX6_code 42 = .ok (.istore 6, 2) := by decide +kernel
theorem dX6_code_44 : decode cX6_code 44 = .ok (.iload 6, 2) := by decide +kernel
theorem dX6_code_46 : decode cX6_code 46 = .ok (.iconst 1, 1) := by decide +kernel
theorem dX6_code_47 : decode cX6_code 47 = .ok (.aload_n 0, 1) := by decide +kernel
theorem dX6_code_48 : decode cX6_code 48 = .ok (.getfield 26, 3) := by decide +kernel
theorem dX6_code_51 : decode cX6_code 51 = .ok (.getfield 234, 3) := by decide +kernel
theorem dX6_code_54 : decode cX6_code 54 = .ok (.ishl, 1) := by decide +kernel
theorem dX6_code_55 : decode cX6_code 55 = .ok (.if_icmp .ge 63, 3) := by decide +kernel
theorem dX6_code_58 : decode cX6_code 58 = .ok (.iload 6, 2) := by decide +kernel
theorem dX6_code_60 : decode cX6_code 60 = .ok (.invokestatic 229, 3) := by decide +kernel
theorem dX6_code_63 : decode cX6_code 63 = .ok (.istore 7, 2) := by decide +kernel
theorem dX6_code_65 : decode cX6_code 65 = .ok (.iload 7, 2) := by decide +kernel
theorem dX6_code_67 : decode cX6_code 67 = .ok (.iload 4, 2) := by decide +kernel
theorem dX6_code_69 : decode cX6_code 69 = .ok (.if_icmp .gt 43, 3) := by decide +kernel
theorem dX6_code_72 : decode cX6_code 72 = .ok (.aload_n 0, 1) := by decide +kernel
theorem dX6_code_73 : decode cX6_code 73 = .ok (.getfield 26, 3) := by decide +kernel
theorem dX6_code_76 : decode cX6_code 76 = .ok (.iload 6, 2) := by decide +kernel
theorem dX6_code_78 : decode cX6_code 78 = .ok (.iload_n 1, 1) := by decide +kernel
theorem dX6_code_79 : decode cX6_code 79 = .ok (.iload_n 2, 1) := by decide +kernel
theorem dX6_code_80 : decode cX6_code 80 = .ok (.invokevirtual 237, 3) := by decide +kernel
theorem dX6_code_83 : decode cX6_code 83 = .ok (.ifCond .ne 6, 3) := by decide +kernel
theorem dX6_code_86 : decode cX6_code 86 = .ok (.goto 26, 3) := by decide +kernel
theorem dX6_code_89 : decode cX6_code 89 = .ok (.iload_n 3, 1) := by decide +kernel
theorem dX6_code_90 : decode cX6_code 90 = .ok (.ifCond .ne 13, 3) := by decide +kernel
theorem dX6_code_93 : decode cX6_code 93 = .ok (.iload 7, 2) := by decide +kernel
theorem dX6_code_95 : decode cX6_code 95 = .ok (.iload 4, 2) := by decide +kernel
theorem dX6_code_97 : decode cX6_code 97 = .ok (.if_icmp .ne 6, 3) := by decide +kernel
theorem dX6_code_100 : decode cX6_code 100 = .ok (.iload 6, 2) := by decide +kernel
theorem dX6_code_102 : decode cX6_code 102 = .ok (.ireturn, 1) := by decide +kernel
theorem dX6_code_103 : decode cX6_code 103 = .ok (.iload 5, 2) := by decide +kernel
theorem dX6_code_105 : decode cX6_code 105 = .ok (.iload 7, 2) := by decide +kernel
theorem dX6_code_107 : decode cX6_code 107 = .ok (.invokestatic 240, 3) := by decide +kernel
theorem dX6_code_110 : decode cX6_code 110 = .ok (.istore 5, 2) := by decide +kernel
theorem dX6_code_112 : decode cX6_code 112 = .ok (.iinc 6 1, 3) := by decide +kernel
theorem dX6_code_115 : decode cX6_code 115 = .ok (.goto (-71), 3) := by decide +kernel
theorem dX6_code_118 : decode cX6_code 118 = .ok (.iload_n 3, 1) := by decide +kernel
theorem dX6_code_119 : decode cX6_code 119 = .ok (.ifCond .ne 8, 3) := by decide +kernel
theorem dX6_code_122 : decode cX6_code 122 = .ok (.bipush (-9), 2) := by decide +kernel
theorem dX6_code_124 : decode cX6_code 124 = .ok (.goto 5, 3) := by decide +kernel
theorem dX6_code_127 : decode cX6_code 127 = .ok (.iload 5, 2) := by decide +kernel
theorem dX6_code_129 : decode cX6_code 129 = .ok (.ireturn, 1) := by decide +kernel
theorem dX6_feast_0 : decode cX6_feast 0 = .ok (.iload_n 1, 1) := by decide +kernel
theorem dX6_feast_1 : decode cX6_feast 1 = .ok (.iconst 1, 1) := by decide +kernel
theorem dX6_feast_2 : decode cX6_feast 2 = .ok (.aload_n 0, 1) := by decide +kernel
theorem dX6_feast_3 : decode cX6_feast 3 = .ok (.getfield 26, 3) := by decide +kernel
theorem dX6_feast_6 : decode cX6_feast 6 = .ok (.getfield 234, 3) := by decide +kernel
theorem dX6_feast_9 : decode cX6_feast 9 = .ok (.ishl, 1) := by decide +kernel
theorem dX6_feast_10 : decode cX6_feast 10 = .ok (.iconst 1, 1) := by decide +kernel
theorem dX6_feast_11 : decode cX6_feast 11 = .ok (.isub, 1) := by decide +kernel
theorem dX6_feast_12 : decode cX6_feast 12 = .ok (.iand, 1) := by decide +kernel
theorem dX6_feast_13 : decode cX6_feast 13 = .ok (.istore_n 3, 1) := by decide +kernel
theorem dX6_feast_14 : decode cX6_feast 14 = .ok (.iload_n 3, 1) := by decide +kernel
theorem dX6_feast_15 : decode cX6_feast 15 = .ok (.ifCond .eq 12, 3) := by decide +kernel
theorem dX6_feast_18 : decode cX6_feast 18 = .ok (.iload_n 2, 1) := by decide +kernel
theorem dX6_feast_19 : decode cX6_feast 19 = .ok (.ifCond .lt 8, 3) := by decide +kernel
theorem dX6_feast_22 : decode cX6_feast 22 = .ok (.iload_n 2, 1) := by decide +kernel
theorem dX6_feast_23 : decode cX6_feast 23 = .ok (.iconst 2, 1) := by decide +kernel
theorem dX6_feast_24 : decode cX6_feast 24 = .ok (.if_icmp .le 5, 3) := by decide +kernel
theorem dX6_feast_27 : decode cX6_feast 27 = .ok (.iconst (-1), 1) := by decide +kernel
theorem dX6_feast_28 : decode cX6_feast 28 = .ok (.ireturn, 1) := by decide +kernel
theorem dX6_feast_29 : decode cX6_feast 29 = .ok (.aload_n 0, 1) := by decide +kernel
theorem dX6_feast_30 : decode cX6_feast 30 = .ok (.getfield 26, 3) := by decide +kernel
theorem dX6_feast_33 : decode cX6_feast 33 = .ok (.iload_n 3, 1) := by decide +kernel
theorem dX6_feast_34 : decode cX6_feast 34 = .ok (.invokevirtual 243, 3) := by decide +kernel
theorem dX6_feast_37 : decode cX6_feast 37 = .ok (.istore 4, 2) := by decide +kernel
theorem dX6_feast_39 : decode cX6_feast 39 = .ok (.iload_n 2, 1) := by decide +kernel
theorem dX6_feast_40 : decode cX6_feast 40 = .ok (.ifCond .ne 6, 3) := by decide +kernel
theorem dX6_feast_43 : decode cX6_feast 43 = .ok (.iload 4, 2) := by decide +kernel
theorem dX6_feast_45 : decode cX6_feast 45 = .ok (.ireturn, 1) := by decide +kernel
theorem dX6_feast_46 : decode cX6_feast 46 = .ok (.aload_n 0, 1) := by decide +kernel
theorem dX6_feast_47 : decode cX6_feast 47 = .ok (.getfield 26, 3) := by decide +kernel
theorem dX6_feast_50 : decode cX6_feast 50 = .ok (.iload 4, 2) := by decide +kernel
theorem dX6_feast_52 : decode cX6_feast 52 = .ok (.invokevirtual 188, 3) := by decide +kernel
theorem dX6_feast_55 : decode cX6_feast 55 = .ok (.istore 5, 2) := by decide +kernel
theorem dX6_feast_57 : decode cX6_feast 57 = .ok (.iload_n 2, 1) := by decide +kernel
theorem dX6_feast_58 : decode cX6_feast 58 = .ok (.iconst 1, 1) := by decide +kernel
theorem dX6_feast_59 : decode cX6_feast 59 = .ok (.if_icmp .eq 10, 3) := by decide +kernel
theorem dX6_feast_62 : decode cX6_feast 62 = .ok (.iload 5, 2) := by decide +kernel
theorem dX6_feast_64 : decode cX6_feast 64 = .ok (.bipush (-9), 2) := by decide +kernel
theorem dX6_feast_66 : decode cX6_feast 66 = .ok (.if_icmp .ne 6, 3) := by decide +kernel
theorem dX6_feast_69 : decode cX6_feast 69 = .ok (.iload 5, 2) := by decide +kernel
theorem dX6_feast_71 : decode cX6_feast 71 = .ok (.ireturn, 1) := by decide +kernel
theorem dX6_feast_72 : decode cX6_feast 72 = .ok (.aload_n 0, 1) := by decide +kernel
theorem dX6_feast_73 : decode cX6_feast 73 = .ok (.getfield 26, 3) := by decide +kernel
theorem dX6_feast_76 : decode cX6_feast 76 = .ok (.iload_n 3, 1) := by decide +kernel
theorem dX6_feast_77 : decode cX6_feast 77 = .ok (.iload 5, 2) := by decide +kernel
theorem dX6_feast_79 : decode cX6_feast 79 = .ok (.invokevirtual 246, 3) := by decide +kernel
theorem dX6_feast_82 : decode cX6_feast 82 = .ok (.ifCond .eq 7, 3) := by decide +kernel
theorem dX6_feast_85 : decode cX6_feast 85 = .ok (.iconst 0, 1) := by decide +kernel
theorem dX6_feast_86 : decode cX6_feast 86 = .ok (.goto 4, 3) := by decide +kernel
theorem dX6_feast_89 : decode cX6_feast 89 = .ok (.iconst 1, 1) := by decide +kernel
theorem dX6_feast_90 : decode cX6_feast 90 = .ok (.ireturn, 1) := by decide +kernel
theorem dX6_silent_0 : decode cX6_silent 0 = .ok (.iload_n 1, 1) := by decide +kernel
theorem dX6_silent_1 : decode cX6_silent 1 = .ok (.iconst 1, 1) := by decide +kernel
theorem dX6_silent_2 : decode cX6_silent 2 = .ok (.if_icmp .lt 9, 3) := by decide +kernel
theorem dX6_silent_5 : decode cX6_silent 5 = .ok (.iload_n 1, 1) := by decide +kernel
theorem dX6_silent_6 : decode cX6_silent 6 = .ok (.bipush 20, 2) := by decide +kernel
theorem dX6_silent_8 : decode cX6_silent 8 = .ok (.if_icmp .le 5, 3) := by decide +kernel
theorem dX6_silent_11 : decode cX6_silent 11 = .ok (.iconst (-1), 1) := by decide +kernel
theorem dX6_silent_12 : decode cX6_silent 12 = .ok (.ireturn, 1) := by decide +kernel
theorem dX6_silent_13 : decode cX6_silent 13 = .ok (.iconst 1, 1) := by decide +kernel
theorem dX6_silent_14 : decode cX6_silent 14 = .ok (.aload_n 0, 1) := by decide +kernel
theorem dX6_silent_15 : decode cX6_silent 15 = .ok (.getfield 33, 3) := by decide +kernel
theorem dX6_silent_18 : decode cX6_silent 18 = .ok (.getfield 216, 3) := by decide +kernel
theorem dX6_silent_21 : decode cX6_silent 21 = .ok (.ishl, 1) := by decide +kernel
theorem dX6_silent_22 : decode cX6_silent 22 = .ok (.iconst 1, 1) := by decide +kernel
theorem dX6_silent_23 : decode cX6_silent 23 = .ok (.isub, 1) := by decide +kernel
theorem dX6_silent_24 : decode cX6_silent 24 = .ok (.istore_n 2, 1) := by decide +kernel
theorem dX6_silent_25 : decode cX6_silent 25 = .ok (.iconst 0, 1) := by decide +kernel
theorem dX6_silent_26 : decode cX6_silent 26 = .ok (.aload_n 0, 1) := by decide +kernel
theorem dX6_silent_27 : decode cX6_silent 27 = .ok (.getfield 33, 3) := by decide +kernel
theorem dX6_silent_30 : decode cX6_silent 30 = .ok (.getfield 129, 3) := by decide +kernel
theorem dX6_silent_33 : decode cX6_silent 33 = .ok (.iload_n 1, 1) := by decide +kernel
theorem dX6_silent_34 : decode cX6_silent 34 = .ok (.isub, 1) := by decide +kernel
theorem dX6_silent_35 : decode cX6_silent 35 = .ok (.invokestatic 240, 3) := by decide +kernel
theorem dX6_silent_38 : decode cX6_silent 38 = .ok (.istore_n 3, 1) := by decide +kernel
theorem dX6_silent_39 : decode cX6_silent 39 = .ok (.iload_n 3, 1) := by decide +kernel
theorem dX6_silent_40 : decode cX6_silent 40 = .ok (.aload_n 0, 1) := by decide +kernel
theorem dX6_silent_41 : decode cX6_silent 41 = .ok (.getfield 33, 3) := by decide +kernel
theorem dX6_silent_44 : decode cX6_silent 44 = .ok (.getfield 129, 3) := by decide +kernel
theorem dX6_silent_47 : decode cX6_silent 47 = .ok (.if_icmp .ge 25, 3) := by decide +kernel
theorem dX6_silent_50 : decode cX6_silent 50 = .ok (.iload_n 2, 1) := by decide +kernel
theorem dX6_silent_51 : decode cX6_silent 51 = .ok (.iconst 1, 1) := by decide +kernel
theorem dX6_silent_52 : decode cX6_silent 52 = .ok (.aload_n 0, 1) := by decide +kernel
theorem dX6_silent_53 : decode cX6_silent 53 = .ok (.getfield 33, 3) := by decide +kernel
theorem dX6_silent_56 : decode cX6_silent 56 = .ok (.getfield 140, 3) := by decide +kernel
theorem dX6_silent_59 : decode cX6_silent 59 = .ok (.iload_n 3, 1) := by decide +kernel
theorem dX6_silent_60 : decode cX6_silent 60 = .ok (.iaload, 1) := by decide +kernel
theorem dX6_silent_61 : decode cX6_silent 61 = .ok (.ishl, 1) := by decide +kernel
theorem dX6_silent_62 : decode cX6_silent 62 = .ok (.iconst (-1), 1) := by decide +kernel
theorem dX6_silent_63 : decode cX6_silent 63 = .ok (.ixor, 1) := by decide +kernel
theorem dX6_silent_64 : decode cX6_silent 64 = .ok (.iand, 1) := by decide +kernel
theorem dX6_silent_65 : decode cX6_silent 65 = .ok (.istore_n 2, 1) := by decide +kernel
theorem dX6_silent_66 : decode cX6_silent 66 = .ok (.iinc 3 1, 3) := by decide +kernel
theorem dX6_silent_69 : decode cX6_silent 69 = .ok (.goto (-30), 3) := by decide +kernel
theorem dX6_silent_72 : decode cX6_silent 72 = .ok (.iload_n 2, 1) := by decide +kernel
theorem dX6_silent_73 : decode cX6_silent 73 = .ok (.ireturn, 1) := by decide +kernel
theorem dX6_drawn_0 : decode cX6_drawn 0 = .ok (.iload_n 1, 1) := by decide +kernel
end
section
theorem dX6_drawn_1 : decode cX6_drawn 1 = .ok (.invokestatic 182, 3) := by decide +kernel
theorem dX6_drawn_4 : decode cX6_drawn 4 = .ok (.ifCond .ne 5, 3) := by decide +kernel
theorem dX6_drawn_7 : decode cX6_drawn 7 = .ok (.iconst (-1), 1) := by decide +kernel
theorem dX6_drawn_8 : decode cX6_drawn 8 = .ok (.ireturn, 1) := by decide +kernel
theorem dX6_drawn_9 : decode cX6_drawn 9 = .ok (.iload_n 1, 1) := by decide +kernel
theorem dX6_drawn_10 : decode cX6_drawn 10 = .ok (.istore_n 2, 1) := by decide +kernel
theorem dX6_drawn_11 : decode cX6_drawn 11 = .ok (.iconst 0, 1) := by decide +kernel
theorem dX6_drawn_12 : decode cX6_drawn 12 = .ok (.istore_n 3, 1) := by decide +kernel
theorem dX6_drawn_13 : decode cX6_drawn 13 = .ok (.iload_n 3, 1) := by decide +kernel
theorem dX6_drawn_14 : decode cX6_drawn 14 = .ok (.iconst 3, 1) := by decide +kernel
theorem dX6_drawn_15 : decode cX6_drawn 15 = .ok (.if_icmp .ge 32, 3) := by decide +kernel
theorem dX6_drawn_18 : decode cX6_drawn 18 = .ok (.aload_n 0, 1) := by decide +kernel
theorem dX6_drawn_19 : decode cX6_drawn 19 = .ok (.getfield 33, 3) := by decide +kernel
theorem dX6_drawn_22 : decode cX6_drawn 22 = .ok (.invokevirtual 249, 3) := by decide +kernel
theorem dX6_drawn_25 : decode cX6_drawn 25 = .ok (.aload_n 0, 1) := by decide +kernel
theorem dX6_drawn_26 : decode cX6_drawn 26 = .ok (.getfield 33, 3) := by decide +kernel
theorem dX6_drawn_29 : decode cX6_drawn 29 = .ok (.getfield 151, 3) := by decide +kernel
theorem dX6_drawn_32 : decode cX6_drawn 32 = .ok (.if_icmp .ge 9, 3) := by decide +kernel
theorem dX6_drawn_35 : decode cX6_drawn 35 = .ok (.iload_n 2, 1) := by decide +kernel
theorem dX6_drawn_36 : decode cX6_drawn 36 = .ok (.iconst 1, 1) := by decide +kernel
theorem dX6_drawn_37 : decode cX6_drawn 37 = .ok (.iload_n 3, 1) := by decide +kernel
theorem dX6_drawn_38 : decode cX6_drawn 38 = .ok (.ishl, 1) := by decide +kernel
theorem dX6_drawn_39 : decode cX6_drawn 39 = .ok (.ixor, 1) := by decide +kernel
theorem dX6_drawn_40 : decode cX6_drawn 40 = .ok (.istore_n 2, 1) := by decide +kernel
theorem dX6_drawn_41 : decode cX6_drawn 41 = .ok (.iinc 3 1, 3) := by decide +kernel
theorem dX6_drawn_44 : decode cX6_drawn 44 = .ok (.goto (-31), 3) := by decide +kernel
theorem dX6_drawn_47 : decode cX6_drawn 47 = .ok (.iload_n 2, 1) := by decide +kernel
theorem dX6_drawn_48 : decode cX6_drawn 48 = .ok (.ireturn, 1) := by decide +kernel
theorem dX6_lot_0 : decode cX6_lot 0 = .ok (.aload_n 0, 1) := by decide +kernel
theorem dX6_lot_1 : decode cX6_lot 1 = .ok (.getfield 33, 3) := by decide +kernel
theorem dX6_lot_4 : decode cX6_lot 4 = .ok (.getfield 88, 3) := by decide +kernel
theorem dX6_lot_7 : decode cX6_lot 7 = .ok (.istore_n 2, 1) := by decide +kernel
theorem dX6_lot_8 : decode cX6_lot 8 = .ok (.aload_n 0, 1) := by decide +kernel
theorem dX6_lot_9 : decode cX6_lot 9 = .ok (.getfield 33, 3) := by decide +kernel
theorem dX6_lot_12 : decode cX6_lot 12 = .ok (.iload_n 1, 1) := by decide +kernel
theorem dX6_lot_13 : decode cX6_lot 13 = .ok (.putfield 88, 3) := by decide +kernel
theorem dX6_lot_16 : decode cX6_lot 16 = .ok (.iload_n 2, 1) := by decide +kernel
theorem dX6_lot_17 : decode cX6_lot 17 = .ok (.ireturn, 1) := by decide +kernel
theorem dX6_mark_0 : decode cX6_mark 0 = .ok (.aload_n 0, 1) := by decide +kernel
theorem dX6_mark_1 : decode cX6_mark 1 = .ok (.getfield 26, 3) := by decide +kernel
theorem dX6_mark_4 : decode cX6_mark 4 = .ok (.iload_n 2, 1) := by decide +kernel
theorem dX6_mark_5 : decode cX6_mark 5 = .ok (.invokevirtual 110, 3) := by decide +kernel
theorem dX6_mark_8 : decode cX6_mark 8 = .ok (.ifCond .ne 6, 3) := by decide +kernel
theorem dX6_mark_11 : decode cX6_mark 11 = .ok (.ldc 253, 2) := by decide +kernel
theorem dX6_mark_13 : decode cX6_mark 13 = .ok (.ireturn, 1) := by decide +kernel
theorem dX6_mark_14 : decode cX6_mark 14 = .ok (.iload_n 1, 1) := by decide +kernel
theorem dX6_mark_15 : decode cX6_mark 15 = .ok (.tableswitch 73 0 5 #[37, 43, 49, 55, 61, 67], 37) := by decide +kernel
theorem dX6_mark_52 : decode cX6_mark 52 = .ok (.aload_n 0, 1) := by decide +kernel
theorem dX6_mark_53 : decode cX6_mark 53 = .ok (.iload_n 2, 1) := by decide +kernel
theorem dX6_mark_54 : decode cX6_mark 54 = .ok (.invokevirtual 254, 3) := by decide +kernel
theorem dX6_mark_57 : decode cX6_mark 57 = .ok (.ireturn, 1) := by decide +kernel
theorem dX6_mark_58 : decode cX6_mark 58 = .ok (.aload_n 0, 1) := by decide +kernel
theorem dX6_mark_59 : decode cX6_mark 59 = .ok (.iload_n 2, 1) := by decide +kernel
theorem dX6_mark_60 : decode cX6_mark 60 = .ok (.invokevirtual 257, 3) := by decide +kernel
theorem dX6_mark_63 : decode cX6_mark 63 = .ok (.ireturn, 1) := by decide +kernel
theorem dX6_mark_64 : decode cX6_mark 64 = .ok (.aload_n 0, 1) := by decide +kernel
theorem dX6_mark_65 : decode cX6_mark 65 = .ok (.iload_n 2, 1) := by decide +kernel
theorem dX6_mark_66 : decode cX6_mark 66 = .ok (.invokevirtual 260, 3) := by decide +kernel
theorem dX6_mark_69 : decode cX6_mark 69 = .ok (.ireturn, 1) := by decide +kernel
theorem dX6_mark_70 : decode cX6_mark 70 = .ok (.aload_n 0, 1) := by decide +kernel
theorem dX6_mark_71 : decode cX6_mark 71 = .ok (.iload_n 2, 1) := by decide +kernel
theorem dX6_mark_72 : decode cX6_mark 72 = .ok (.invokevirtual 263, 3) := by decide +kernel
theorem dX6_mark_75 : decode cX6_mark 75 = .ok (.ireturn, 1) := by decide +kernel
theorem dX6_mark_76 : decode cX6_mark 76 = .ok (.aload_n 0, 1) := by decide +kernel
theorem dX6_mark_77 : decode cX6_mark 77 = .ok (.iload_n 2, 1) := by decide +kernel
theorem dX6_mark_78 : decode cX6_mark 78 = .ok (.invokevirtual 266, 3) := by decide +kernel
theorem dX6_mark_81 : decode cX6_mark 81 = .ok (.ireturn, 1) := by decide +kernel
theorem dX6_mark_82 : decode cX6_mark 82 = .ok (.aload_n 0, 1) := by decide +kernel
theorem dX6_mark_83 : decode cX6_mark 83 = .ok (.iload_n 2, 1) := by decide +kernel
theorem dX6_mark_84 : decode cX6_mark 84 = .ok (.invokevirtual 269, 3) := by decide +kernel
theorem dX6_mark_87 : decode cX6_mark 87 = .ok (.ireturn, 1) := by decide +kernel
theorem dX6_mark_88 : decode cX6_mark 88 = .ok (.ldc 253, 2) := by decide +kernel
theorem dX6_mark_90 : decode cX6_mark 90 = .ok (.ireturn, 1) := by decide +kernel
theorem dX6_keep_0 : decode cX6_keep 0 = .ok (.iload_n 1, 1) := by decide +kernel
theorem dX6_keep_1 : decode cX6_keep 1 = .ok (.ifCond .lt 8, 3) := by decide +kernel
theorem dX6_keep_4 : decode cX6_keep 4 = .ok (.iload_n 1, 1) := by decide +kernel
theorem dX6_keep_5 : decode cX6_keep 5 = .ok (.iconst 2, 1) := by decide +kernel
theorem dX6_keep_6 : decode cX6_keep 6 = .ok (.if_icmp .lt 5, 3) := by decide +kernel
theorem dX6_keep_9 : decode cX6_keep 9 = .ok (.iconst (-1), 1) := by decide +kernel
theorem dX6_keep_10 : decode cX6_keep 10 = .ok (.ireturn, 1) := by decide +kernel
theorem dX6_keep_11 : decode cX6_keep 11 = .ok (.aload_n 0, 1) := by decide +kernel
theorem dX6_keep_12 : decode cX6_keep 12 = .ok (.iload_n 1, 1) := by decide +kernel
theorem dX6_keep_13 : decode cX6_keep 13 = .ok (.invokevirtual 272, 3) := by decide +kernel
theorem dX6_keep_16 : decode cX6_keep 16 = .ok (.astore_n 2, 1) := by decide +kernel
theorem dX6_keep_17 : decode cX6_keep 17 = .ok (.aload_n 2, 1) := by decide +kernel
theorem dX6_keep_18 : decode cX6_keep 18 = .ok (.aload_n 0, 1) := by decide +kernel
theorem dX6_keep_19 : decode cX6_keep 19 = .ok (.getfield 33, 3) := by decide +kernel
theorem dX6_keep_22 : decode cX6_keep 22 = .ok (.invokevirtual 91, 3) := by decide +kernel
theorem dX6_keep_25 : decode cX6_keep 25 = .ok (.aload_n 2, 1) := by decide +kernel
theorem dX6_keep_26 : decode cX6_keep 26 = .ok (.iconst 1, 1) := by decide +kernel
theorem dX6_keep_27 : decode cX6_keep 27 = .ok (.putfield 94, 3) := by decide +kernel
theorem dX6_keep_30 : decode cX6_keep 30 = .ok (.aload_n 2, 1) := by decide +kernel
theorem dX6_keep_31 : decode cX6_keep 31 = .ok (.getfield 129, 3) := by decide +kernel
theorem dX6_keep_34 : decode cX6_keep 34 = .ok (.ireturn, 1) := by decide +kernel
theorem dX6_back_0 : decode cX6_back 0 = .ok (.iload_n 1, 1) := by decide +kernel
theorem dX6_back_1 : decode cX6_back 1 = .ok (.ifCond .lt 8, 3) := by decide +kernel
theorem dX6_back_4 : decode cX6_back 4 = .ok (.iload_n 1, 1) := by decide +kernel
theorem dX6_back_5 : decode cX6_back 5 = .ok (.iconst 2, 1) := by decide +kernel
theorem dX6_back_6 : decode cX6_back 6 = .ok (.if_icmp .lt 5, 3) := by decide +kernel
theorem dX6_back_9 : decode cX6_back 9 = .ok (.iconst (-1), 1) := by decide +kernel
theorem dX6_back_10 : decode cX6_back 10 = .ok (.ireturn, 1) := by decide +kernel
theorem dX6_back_11 : decode cX6_back 11 = .ok (.aload_n 0, 1) := by decide +kernel
theorem dX6_back_12 : decode cX6_back 12 = .ok (.iload_n 1, 1) := by decide +kernel
theorem dX6_back_13 : decode cX6_back 13 = .ok (.invokevirtual 272, 3) := by decide +kernel
theorem dX6_back_16 : decode cX6_back 16 = .ok (.astore_n 2, 1) := by decide +kernel
theorem dX6_back_17 : decode cX6_back 17 = .ok (.aload_n 2, 1) := by decide +kernel
theorem dX6_back_18 : decode cX6_back 18 = .ok (.getfield 94, 3) := by decide +kernel
theorem dX6_back_21 : decode cX6_back 21 = .ok (.ifCond .ne 6, 3) := by decide +kernel
theorem dX6_back_24 : decode cX6_back 24 = .ok (.bipush (-2), 2) := by decide +kernel
theorem dX6_back_26 : decode cX6_back 26 = .ok (.ireturn, 1) := by decide +kernel
theorem dX6_back_27 : decode cX6_back 27 = .ok (.aload_n 0, 1) := by decide +kernel
theorem dX6_back_28 : decode cX6_back 28 = .ok (.getfield 33, 3) := by decide +kernel
theorem dX6_back_31 : decode cX6_back 31 = .ok (.aload_n 2, 1) := by decide +kernel
theorem dX6_back_32 : decode cX6_back 32 = .ok (.invokevirtual 91, 3) := by decide +kernel
theorem dX6_back_35 : decode cX6_back 35 = .ok (.aload_n 0, 1) := by decide +kernel
theorem dX6_back_36 : decode cX6_back 36 = .ok (.getfield 33, 3) := by decide +kernel
theorem dX6_back_39 : decode cX6_back 39 = .ok (.getfield 129, 3) := by decide +kernel
theorem dX6_back_42 : decode cX6_back 42 = .ok (.ireturn, 1) := by decide +kernel
theorem dX6_count_0 : decode cX6_count 0 = .ok (.iload_n 1, 1) := by decide +kernel
theorem dX6_count_1 : decode cX6_count 1 = .ok (.tableswitch 75 0 4 #[35, 43, 51, 59, 67], 35) := by decide +kernel
theorem dX6_count_36 : decode cX6_count 36 = .ok (.aload_n 0, 1) := by decide +kernel
theorem dX6_count_37 : decode cX6_count 37 = .ok (.getfield 33, 3) := by decide +kernel
theorem dX6_count_40 : decode cX6_count 40 = .ok (.getfield 216, 3) := by decide +kernel
theorem dX6_count_43 : decode cX6_count 43 = .ok (.ireturn, 1) := by decide +kernel
theorem dX6_count_44 : decode cX6_count 44 = .ok (.aload_n 0, 1) := by decide +kernel
theorem dX6_count_45 : decode cX6_count 45 = .ok (.getfield 26, 3) := by decide +kernel
theorem dX6_count_48 : decode cX6_count 48 = .ok (.getfield 234, 3) := by decide +kernel
theorem dX6_count_51 : decode cX6_count 51 = .ok (.ireturn, 1) := by decide +kernel
theorem dX6_count_52 : decode cX6_count 52 = .ok (.aload_n 0, 1) := by decide +kernel
theorem dX6_count_53 : decode cX6_count 53 = .ok (.getfield 33, 3) := by decide +kernel
theorem dX6_count_56 : decode cX6_count 56 = .ok (.getfield 129, 3) := by decide +kernel
theorem dX6_count_59 : decode cX6_count 59 = .ok (.ireturn, 1) := by decide +kernel
theorem dX6_count_60 : decode cX6_count 60 = .ok (.aload_n 0, 1) := by decide +kernel
theorem dX6_count_61 : decode cX6_count 61 = .ok (.getfield 33, 3) := by decide +kernel
theorem dX6_count_64 : decode cX6_count 64 = .ok (.getfield 151, 3) := by decide +kernel
theorem dX6_count_67 : decode cX6_count 67 = .ok (.ireturn, 1) := by decide +kernel
theorem dX6_count_68 : decode cX6_count 68 = .ok (.aload_n 0, 1) := by decide +kernel
theorem dX6_count_69 : decode cX6_count 69 = .ok (.getfield 10, 3) := by decide +kernel
theorem dX6_count_72 : decode cX6_count 72 = .ok (.getfield 65, 3) := by decide +kernel
theorem dX6_count_75 : decode cX6_count 75 = .ok (.ireturn, 1) := by decide +kernel
theorem dX6_count_76 : decode cX6_count 76 = .ok (.iconst (-1), 1) := by decide +kernel
theorem dX6_count_77 : decode cX6_count 77 = .ok (.ireturn, 1) := by decide +kernel
theorem dX6_trace_0 : decode cX6_trace 0 = .ok (.aload_n 0, 1) := by decide +kernel
theorem dX6_trace_1 : decode cX6_trace 1 = .ok (.getfield 61, 3) := by decide +kernel
theorem dX6_trace_4 : decode cX6_trace 4 = .ok (.lreturn, 1) := by decide +kernel
theorem dX6_isSmoke_0 : decode cX6_isSmoke 0 = .ok (.iload_n 0, 1) := by decide +kernel
theorem dX6_isSmoke_1 : decode cX6_isSmoke 1 = .ok (.ifCond .lt 13, 3) := by decide +kernel
theorem dX6_isSmoke_4 : decode cX6_isSmoke 4 = .ok (.iload_n 0, 1) := by decide +kernel
theorem dX6_isSmoke_5 : decode cX6_isSmoke 5 = .ok (.bipush 8, 2) := by decide +kernel
theorem dX6_isSmoke_7 : decode cX6_isSmoke 7 = .ok (.if_icmp .ge 7, 3) := by decide +kernel
theorem dX6_isSmoke_10 : decode cX6_isSmoke 10 = .ok (.iconst 1, 1) := by decide +kernel
theorem dX6_isSmoke_11 : decode cX6_isSmoke 11 = .ok (.goto 4, 3) := by decide +kernel
theorem dX6_isSmoke_14 : decode cX6_isSmoke 14 = .ok (.iconst 0, 1) := by decide +kernel
theorem dX6_isSmoke_15 : decode cX6_isSmoke 15 = .ok (.ireturn, 1) := by decide +kernel
theorem dX6_isWord_0 : decode cX6_isWord 0 = .ok (.iload_n 0, 1) := by decide +kernel
theorem dX6_isWord_1 : decode cX6_isWord 1 = .ok (.ifCond .lt 13, 3) := by decide +kernel
theorem dX6_isWord_4 : decode cX6_isWord 4 = .ok (.iload_n 0, 1) := by decide +kernel
theorem dX6_isWord_5 : decode cX6_isWord 5 = .ok (.bipush 8, 2) := by decide +kernel
theorem dX6_isWord_7 : decode cX6_isWord 7 = .ok (.if_icmp .ge 7, 3) := by decide +kernel
theorem dX6_isWord_10 : decode cX6_isWord 10 = .ok (.iconst 1, 1) := by decide +kernel
theorem dX6_isWord_11 : decode cX6_isWord 11 = .ok (.goto 4, 3) := by decide +kernel
theorem dX6_isWord_14 : decode cX6_isWord 14 = .ok (.iconst 0, 1) := by decide +kernel
theorem dX6_isWord_15 : decode cX6_isWord 15 = .ok (.ireturn, 1) := by decide +kernel
theorem dX6_isRow_0 : decode cX6_isRow 0 = .ok (.iload_n 0, 1) := by decide +kernel
theorem dX6_isRow_1 : decode cX6_isRow 1 = .ok (.invokestatic 191, 3) := by decide +kernel
theorem dX6_isRow_4 : decode cX6_isRow 4 = .ok (.ifCond .ne 5, 3) := by decide +kernel
theorem dX6_isRow_7 : decode cX6_isRow 7 = .ok (.iconst 0, 1) := by decide +kernel
theorem dX6_isRow_8 : decode cX6_isRow 8 = .ok (.ireturn, 1) := by decide +kernel
theorem dX6_isRow_9 : decode cX6_isRow 9 = .ok (.iload_n 1, 1) := by decide +kernel
theorem dX6_isRow_10 : decode cX6_isRow 10 = .ok (.iconst (-1), 1) := by decide +kernel
theorem dX6_isRow_11 : decode cX6_isRow 11 = .ok (.if_icmp .ne 14, 3) := by decide +kernel
theorem dX6_isRow_14 : decode cX6_isRow 14 = .ok (.iload_n 2, 1) := by decide +kernel
theorem dX6_isRow_15 : decode cX6_isRow 15 = .ok (.iconst (-1), 1) := by decide +kernel
theorem dX6_isRow_16 : decode cX6_isRow 16 = .ok (.if_icmp .ne 7, 3) := by decide +kernel
theorem dX6_isRow_19 : decode cX6_isRow 19 = .ok (.iconst 1, 1) := by decide +kernel
theorem dX6_isRow_20 : decode cX6_isRow 20 = .ok (.goto 4, 3) := by decide +kernel
theorem dX6_isRow_23 : decode cX6_isRow 23 = .ok (.iconst 0, 1) := by decide +kernel
theorem dX6_isRow_24 : decode cX6_isRow 24 = .ok (.ireturn, 1) := by decide +kernel
theorem dX6_isRow_25 : decode cX6_isRow 25 = .ok (.iload_n 1, 1) := by decide +kernel
theorem dX6_isRow_26 : decode cX6_isRow 26 = .ok (.invokestatic 191, 3) := by decide +kernel
theorem dX6_isRow_29 : decode cX6_isRow 29 = .ok (.ifCond .eq 19, 3) := by decide +kernel
theorem dX6_isRow_32 : decode cX6_isRow 32 = .ok (.iload_n 2, 1) := by decide +kernel
theorem dX6_isRow_33 : decode cX6_isRow 33 = .ok (.iconst (-1), 1) := by decide +kernel
theorem dX6_isRow_34 : decode cX6_isRow 34 = .ok (.if_icmp .eq 10, 3) := by decide +kernel
theorem dX6_isRow_37 : decode cX6_isRow 37 = .ok (.iload_n 2, 1) := by decide +kernel
theorem dX6_isRow_38 : decode cX6_isRow 38 = .ok (.invokestatic 191, 3) := by decide +kernel
theorem dX6_isRow_41 : decode cX6_isRow 41 = .ok (.ifCond .eq 7, 3) := by decide +kernel
theorem dX6_isRow_44 : decode cX6_isRow 44 = .ok (.iconst 1, 1) := by decide +kernel
theorem dX6_isRow_45 : decode cX6_isRow 45 = .ok (.goto 4, 3) := by decide +kernel
theorem dX6_isRow_48 : decode cX6_isRow 48 = .ok (.iconst 0, 1) := by decide +kernel
theorem dX6_isRow_49 : decode cX6_isRow 49 = .ok (.ireturn, 1) := by decide +kernel
theorem dX6_couldCook_0 : decode cX6_couldCook 0 = .ok (.aload_n 0, 1) := by decide +kernel
theorem dX6_couldCook_1 : decode cX6_couldCook 1 = .ok (.getfield 33, 3) := by decide +kernel
theorem dX6_couldCook_4 : decode cX6_couldCook 4 = .ok (.iload_n 1, 1) := by decide +kernel
theorem dX6_couldCook_5 : decode cX6_couldCook 5 = .ok (.aload_n 0, 1) := by decide +kernel
theorem dX6_couldCook_6 : decode cX6_couldCook 6 = .ok (.getfield 57, 3) := by decide +kernel
theorem dX6_couldCook_9 : decode cX6_couldCook 9 = .ok (.invokevirtual 164, 3) := by decide +kernel
theorem dX6_couldCook_12 : decode cX6_couldCook 12 = .ok (.aload_n 0, 1) := by decide +kernel
theorem dX6_couldCook_13 : decode cX6_couldCook 13 = .ok (.getfield 26, 3) := by decide +kernel
theorem dX6_couldCook_16 : decode cX6_couldCook 16 = .ok (.iload_n 2, 1) := by decide +kernel
theorem dX6_couldCook_17 : decode cX6_couldCook 17 = .ok (.aload_n 0, 1) := by decide +kernel
theorem dX6_couldCook_18 : decode cX6_couldCook 18 = .ok (.getfield 57, 3) := by decide +kernel
theorem dX6_couldCook_21 : decode cX6_couldCook 21 = .ok (.invokevirtual 276, 3) := by decide +kernel
theorem dX6_couldCook_24 : decode cX6_couldCook 24 = .ok (.ireturn, 1) := by decide +kernel
theorem dX6_weightOf_0 : decode cX6_weightOf 0 = .ok (.aload_n 0, 1) := by decide +kernel
theorem dX6_weightOf_1 : decode cX6_weightOf 1 = .ok (.getfield 33, 3) := by decide +kernel
theorem dX6_weightOf_4 : decode cX6_weightOf 4 = .ok (.iload_n 1, 1) := by decide +kernel
theorem dX6_weightOf_5 : decode cX6_weightOf 5 = .ok (.aload_n 0, 1) := by decide +kernel
theorem dX6_weightOf_6 : decode cX6_weightOf 6 = .ok (.getfield 57, 3) := by decide +kernel
theorem dX6_weightOf_9 : decode cX6_weightOf 9 = .ok (.invokevirtual 164, 3) := by decide +kernel
theorem dX6_weightOf_12 : decode cX6_weightOf 12 = .ok (.iconst 0, 1) := by decide +kernel
theorem dX6_weightOf_13 : decode cX6_weightOf 13 = .ok (.istore_n 3, 1) := by decide +kernel
theorem dX6_weightOf_14 : decode cX6_weightOf 14 = .ok (.iconst 0, 1) := by decide +kernel
theorem dX6_weightOf_15 : decode cX6_weightOf 15 = .ok (.istore 4, 2) := by decide +kernel
theorem dX6_weightOf_17 : decode cX6_weightOf 17 = .ok (.iload 4, 2) := by decide +kernel
theorem dX6_weightOf_19 : decode cX6_weightOf 19 = .ok (.aload_n 0, 1) := by decide +kernel
theorem dX6_weightOf_20 : decode cX6_weightOf 20 = .ok (.getfield 26, 3) := by decide +kernel
theorem dX6_weightOf_23 : decode cX6_weightOf 23 = .ok (.getfield 234, 3) := by decide +kernel
theorem dX6_weightOf_26 : decode cX6_weightOf 26 = .ok (.if_icmp .ge 46, 3) := by decide +kernel
theorem dX6_weightOf_29 : decode cX6_weightOf 29 = .ok (.aload_n 0, 1) := by decide +kernel
theorem dX6_weightOf_30 : decode cX6_weightOf 30 = .ok (.getfield 26, 3) := by decide +kernel
theorem dX6_weightOf_33 : decode cX6_weightOf 33 = .ok (.iload 4, 2) := by decide +kernel
theorem dX6_weightOf_35 : decode cX6_weightOf 35 = .ok (.aload_n 0, 1) := by decide +kernel
theorem dX6_weightOf_36 : decode cX6_weightOf 36 = .ok (.getfield 57, 3) := by decide +kernel
theorem dX6_weightOf_39 : decode cX6_weightOf 39 = .ok (.invokevirtual 276, 3) := by decide +kernel
theorem dX6_weightOf_42 : decode cX6_weightOf 42 = .ok (.ifCond .eq 24, 3) := by decide +kernel
theorem dX6_weightOf_45 : decode cX6_weightOf 45 = .ok (.iload_n 3, 1) := by decide +kernel
theorem dX6_weightOf_46 : decode cX6_weightOf 46 = .ok (.aload_n 0, 1) := by decide +kernel
theorem dX6_weightOf_47 : decode cX6_weightOf 47 = .ok (.getfield 33, 3) := by decide +kernel
theorem dX6_weightOf_50 : decode cX6_weightOf 50 = .ok (.aload_n 0, 1) := by decide +kernel
theorem dX6_weightOf_51 : decode cX6_weightOf 51 = .ok (.getfield 26, 3) := by decide +kernel
theorem dX6_weightOf_54 : decode cX6_weightOf 54 = .ok (.getfield 116, 3) := by decide +kernel
theorem dX6_weightOf_57 : decode cX6_weightOf 57 = .ok (.iload 4, 2) := by decide +kernel
theorem dX6_weightOf_59 : decode cX6_weightOf 59 = .ok (.iaload, 1) := by decide +kernel
theorem dX6_weightOf_60 : decode cX6_weightOf 60 = .ok (.iload_n 2, 1) := by decide +kernel
theorem dX6_weightOf_61 : decode cX6_weightOf 61 = .ok (.invokevirtual 185, 3) := by decide +kernel
theorem dX6_weightOf_64 : decode cX6_weightOf 64 = .ok (.iadd, 1) := by decide +kernel
theorem dX6_weightOf_65 : decode cX6_weightOf 65 = .ok (.istore_n 3, 1) := by decide +kernel
theorem dX6_weightOf_66 : decode cX6_weightOf 66 = .ok (.iinc 4 1, 3) := by decide +kernel
theorem dX6_weightOf_69 : decode cX6_weightOf 69 = .ok (.goto (-52), 3) := by decide +kernel
theorem dX6_weightOf_72 : decode cX6_weightOf 72 = .ok (.iload_n 3, 1) := by decide +kernel
theorem dX6_weightOf_73 : decode cX6_weightOf 73 = .ok (.ireturn, 1) := by decide +kernel
theorem dX6_leastTerms_0 : decode cX6_leastTerms 0 = .ok (.lload_n 0, 1) := by decide +kernel
theorem dX6_leastTerms_1 : decode cX6_leastTerms 1 = .ok (.lstore 5, 2) := by decide +kernel
theorem dX6_leastTerms_3 : decode cX6_leastTerms 3 = .ok (.lload_n 2, 1) := by decide +kernel
theorem dX6_leastTerms_4 : decode cX6_leastTerms 4 = .ok (.lstore 7, 2) := by decide +kernel
theorem dX6_leastTerms_6 : decode cX6_leastTerms 6 = .ok (.iconst 0, 1) := by decide +kernel
theorem dX6_leastTerms_7 : decode cX6_leastTerms 7 = .ok (.istore 9, 2) := by decide +kernel
theorem dX6_leastTerms_9 : decode cX6_leastTerms 9 = .ok (.iload 9, 2) := by decide +kernel
theorem dX6_leastTerms_11 : decode cX6_leastTerms 11 = .ok (.bipush 100, 2) := by decide +kernel
theorem dX6_leastTerms_13 : decode cX6_leastTerms 13 = .ok (.if_icmp .ge 31, 3) := by decide +kernel
theorem dX6_leastTerms_16 : decode cX6_leastTerms 16 = .ok (.lload 7, 2) := by decide +kernel
theorem dX6_leastTerms_18 : decode cX6_leastTerms 18 = .ok (.lconst 0, 1) := by decide +kernel
theorem dX6_leastTerms_19 : decode cX6_leastTerms 19 = .ok (.lcmp, 1) := by decide +kernel
theorem dX6_leastTerms_20 : decode cX6_leastTerms 20 = .ok (.ifCond .eq 24, 3) := by decide +kernel
theorem dX6_leastTerms_23 : decode cX6_leastTerms 23 = .ok (.lload 5, 2) := by decide +kernel
theorem dX6_leastTerms_25 : decode cX6_leastTerms 25 = .ok (.lload 7, 2) := by decide +kernel
theorem dX6_leastTerms_27 : decode cX6_leastTerms 27 = .ok (.lrem, 1) := by decide +kernel
theorem dX6_leastTerms_28 : decode cX6_leastTerms 28 = .ok (.lstore 10, 2) := by decide +kernel
theorem dX6_leastTerms_30 : decode cX6_leastTerms 30 = .ok (.lload 7, 2) := by decide +kernel
theorem dX6_leastTerms_32 : decode cX6_leastTerms 32 = .ok (.lstore 5, 2) := by decide +kernel
theorem dX6_leastTerms_34 : decode cX6_leastTerms 34 = .ok (.lload 10, 2) := by decide +kernel
theorem dX6_leastTerms_36 : decode cX6_leastTerms 36 = .ok (.lstore 7, 2) := by decide +kernel
theorem dX6_leastTerms_38 : decode cX6_leastTerms 38 = .ok (.iinc 9 1, 3) := by decide +kernel
theorem dX6_leastTerms_41 : decode cX6_leastTerms 41 = .ok (.goto (-32), 3) := by decide +kernel
theorem dX6_leastTerms_44 : decode cX6_leastTerms 44 = .ok (.lload 5, 2) := by decide +kernel
theorem dX6_leastTerms_46 : decode cX6_leastTerms 46 = .ok (.lconst 0, 1) := by decide +kernel
theorem dX6_leastTerms_47 : decode cX6_leastTerms 47 = .ok (.lcmp, 1) := by decide +kernel
theorem dX6_leastTerms_48 : decode cX6_leastTerms 48 = .ok (.ifCond .ne 7, 3) := by decide +kernel
theorem dX6_leastTerms_51 : decode cX6_leastTerms 51 = .ok (.ldc2_w 194, 3) := by decide +kernel
theorem dX6_leastTerms_54 : decode cX6_leastTerms 54 = .ok (.lreturn, 1) := by decide +kernel
theorem dX6_leastTerms_55 : decode cX6_leastTerms 55 = .ok (.iload 4, 2) := by decide +kernel
theorem dX6_leastTerms_57 : decode cX6_leastTerms 57 = .ok (.ifCond .ne 10, 3) := by decide +kernel
theorem dX6_leastTerms_60 : decode cX6_leastTerms 60 = .ok (.lload_n 0, 1) := by decide +kernel
theorem dX6_leastTerms_61 : decode cX6_leastTerms 61 = .ok (.lload 5, 2) := by decide +kernel
theorem dX6_leastTerms_63 : decode cX6_leastTerms 63 = .ok (.ldiv, 1) := by decide +kernel
theorem dX6_leastTerms_64 : decode cX6_leastTerms 64 = .ok (.goto 7, 3) := by decide +kernel
theorem dX6_leastTerms_67 : decode cX6_leastTerms 67 = .ok (.lload_n 2, 1) := by decide +kernel
theorem dX6_leastTerms_68 : decode cX6_leastTerms 68 = .ok (.lload 5, 2) := by decide +kernel
theorem dX6_leastTerms_70 : decode cX6_leastTerms 70 = .ok (.ldiv, 1) := by decide +kernel
theorem dX6_leastTerms_71 : decode cX6_leastTerms 71 = .ok (.lreturn, 1) := by decide +kernel
theorem dX6_imageOf_0 : decode cX6_imageOf 0 = .ok (.iload_n 1, 1) := by decide +kernel
theorem dX6_imageOf_1 : decode cX6_imageOf 1 = .ok (.ifCond .ne 10, 3) := by decide +kernel
theorem dX6_imageOf_4 : decode cX6_imageOf 4 = .ok (.aload_n 0, 1) := by decide +kernel
theorem dX6_imageOf_5 : decode cX6_imageOf 5 = .ok (.getfield 37, 3) := by decide +kernel
theorem dX6_imageOf_8 : decode cX6_imageOf 8 = .ok (.goto 7, 3) := by decide +kernel
theorem dX6_imageOf_11 : decode cX6_imageOf 11 = .ok (.aload_n 0, 1) := by decide +kernel
theorem dX6_imageOf_12 : decode cX6_imageOf 12 = .ok (.getfield 40, 3) := by decide +kernel
theorem dX6_imageOf_15 : decode cX6_imageOf 15 = .ok (.areturn, 1) := by decide +kernel
theorem dX6_markOfDish_0 : decode cX6_markOfDish 0 = .ok (.aload_n 0, 1) := by decide +kernel
theorem dX6_markOfDish_1 : decode cX6_markOfDish 1 = .ok (.dup, 1) := by decide +kernel
theorem dX6_markOfDish_2 : decode cX6_markOfDish 2 = .ok (.getfield 61, 3) := by decide +kernel
theorem dX6_markOfDish_5 : decode cX6_markOfDish 5 = .ok (.lconst 1, 1) := by decide +kernel
theorem dX6_markOfDish_6 : decode cX6_markOfDish 6 = .ok (.ladd, 1) := by decide +kernel
theorem dX6_markOfDish_7 : decode cX6_markOfDish 7 = .ok (.putfield 61, 3) := by decide +kernel
theorem dX6_markOfDish_10 : decode cX6_markOfDish 10 = .ok (.aload_n 0, 1) := by decide +kernel
theorem dX6_markOfDish_11 : decode cX6_markOfDish 11 = .ok (.getfield 26, 3) := by decide +kernel
theorem dX6_markOfDish_14 : decode cX6_markOfDish 14 = .ok (.getfield 122, 3) := by decide +kernel
theorem dX6_markOfDish_17 : decode cX6_markOfDish 17 = .ok (.iload_n 1, 1) := by decide +kernel
theorem dX6_markOfDish_18 : decode cX6_markOfDish 18 = .ok (.iaload, 1) := by decide +kernel
theorem dX6_markOfDish_19 : decode cX6_markOfDish 19 = .ok (.ireturn, 1) := by decide +kernel
theorem dX6_markOfStew_0 : decode cX6_markOfStew 0 = .ok (.aload_n 0, 1) := by decide +kernel
theorem dX6_markOfStew_1 : decode cX6_markOfStew 1 = .ok (.dup, 1) := by decide +kernel
theorem dX6_markOfStew_2 : decode cX6_markOfStew 2 = .ok (.getfield 61, 3) := by decide +kernel
theorem dX6_markOfStew_5 : decode cX6_markOfStew 5 = .ok (.ldc2_w 280, 3) := by decide +kernel
theorem dX6_markOfStew_8 : decode cX6_markOfStew 8 = .ok (.ladd, 1) := by decide +kernel
theorem dX6_markOfStew_9 : decode cX6_markOfStew 9 = .ok (.putfield 61, 3) := by decide +kernel
theorem dX6_markOfStew_12 : decode cX6_markOfStew 12 = .ok (.aload_n 0, 1) := by decide +kernel
theorem dX6_markOfStew_13 : decode cX6_markOfStew 13 = .ok (.iload_n 1, 1) := by decide +kernel
theorem dX6_markOfStew_14 : decode cX6_markOfStew 14 = .ok (.invokevirtual 254, 3) := by decide +kernel
theorem dX6_markOfStew_17 : decode cX6_markOfStew 17 = .ok (.iconst 2, 1) := by decide +kernel
theorem dX6_markOfStew_18 : decode cX6_markOfStew 18 = .ok (.imul, 1) := by decide +kernel
theorem dX6_markOfStew_19 : decode cX6_markOfStew 19 = .ok (.ireturn, 1) := by decide +kernel
theorem dX6_markOfRoast_0 : decode cX6_markOfRoast 0 = .ok (.aload_n 0, 1) := by decide +kernel
theorem dX6_markOfRoast_1 : decode cX6_markOfRoast 1 = .ok (.dup, 1) := by decide +kernel
theorem dX6_markOfRoast_2 : decode cX6_markOfRoast 2 = .ok (.getfield 61, 3) := by decide +kernel
theorem dX6_markOfRoast_5 : decode cX6_markOfRoast 5 = .ok (.ldc2_w 282, 3) := by decide +kernel
theorem dX6_markOfRoast_8 : decode cX6_markOfRoast 8 = .ok (.ladd, 1) := by decide +kernel
theorem dX6_markOfRoast_9 : decode cX6_markOfRoast 9 = .ok (.putfield 61, 3) := by decide +kernel
theorem dX6_markOfRoast_12 : decode cX6_markOfRoast 12 = .ok (.aload_n 0, 1) := by decide +kernel
theorem dX6_markOfRoast_13 : decode cX6_markOfRoast 13 = .ok (.iload_n 1, 1) := by decide +kernel
theorem dX6_markOfRoast_14 : decode cX6_markOfRoast 14 = .ok (.invokevirtual 254, 3) := by decide +kernel
theorem dX6_markOfRoast_17 : decode cX6_markOfRoast 17 = .ok (.aload_n 0, 1) := by decide +kernel
theorem dX6_markOfRoast_18 : decode cX6_markOfRoast 18 = .ok (.getfield 26, 3) := by decide +kernel
theorem dX6_markOfRoast_21 : decode cX6_markOfRoast 21 = .ok (.getfield 116, 3) := by decide +kernel
theorem dX6_markOfRoast_24 : decode cX6_markOfRoast 24 = .ok (.iload_n 1, 1) := by decide +kernel
theorem dX6_markOfRoast_25 : decode cX6_markOfRoast 25 = .ok (.iaload, 1) := by decide +kernel
theorem dX6_markOfRoast_26 : decode cX6_markOfRoast 26 = .ok (.iadd, 1) := by decide +kernel
theorem dX6_markOfRoast_27 : decode cX6_markOfRoast 27 = .ok (.ireturn, 1) := by decide +kernel
theorem dX6_markOfBrides_0 : decode cX6_markOfBrides 0 = .ok (.aload_n 0, 1) := by decide +kernel
theorem dX6_markOfBrides_1 : decode cX6_markOfBrides 1 = .ok (.dup, 1) := by decide +kernel
theorem dX6_markOfBrides_2 : decode cX6_markOfBrides 2 = .ok (.getfield 61, 3) := by decide +kernel
theorem dX6_markOfBrides_5 : decode cX6_markOfBrides 5 = .ok (.ldc2_w 210, 3) := by decide +kernel
theorem dX6_markOfBrides_8 : decode cX6_markOfBrides 8 = .ok (.ladd, 1) := by decide +kernel
theorem dX6_markOfBrides_9 : decode cX6_markOfBrides 9 = .ok (.putfield 61, 3) := by decide +kernel
theorem dX6_markOfBrides_12 : decode cX6_markOfBrides 12 = .ok (.aload_n 0, 1) := by decide +kernel
theorem dX6_markOfBrides_13 : decode cX6_markOfBrides 13 = .ok (.iload_n 1, 1) := by decide +kernel
theorem dX6_markOfBrides_14 : decode cX6_markOfBrides 14 = .ok (.invokevirtual 257, 3) := by decide +kernel
theorem dX6_markOfBrides_17 : decode cX6_markOfBrides 17 = .ok (.iload_n 1, 1) := by decide +kernel
theorem dX6_markOfBrides_18 : decode cX6_markOfBrides 18 = .ok (.iadd, 1) := by decide +kernel
theorem dX6_markOfBrides_19 : decode cX6_markOfBrides 19 = .ok (.ireturn, 1) := by decide +kernel
theorem dX6_markOfPoor_0 : decode cX6_markOfPoor 0 = .ok (.aload_n 0, 1) := by decide +kernel
theorem dX6_markOfPoor_1 : decode cX6_markOfPoor 1 = .ok (.dup, 1) := by decide +kernel
theorem dX6_markOfPoor_2 : decode cX6_markOfPoor 2 = .ok (.getfield 61, 3) := by decide +kernel
theorem dX6_markOfPoor_5 : decode cX6_markOfPoor 5 = .ok (.ldc2_w 284, 3) := by decide +kernel
theorem dX6_markOfPoor_8 : decode cX6_markOfPoor 8 = .ok (.ladd, 1) := by decide +kernel
theorem dX6_markOfPoor_9 : decode cX6_markOfPoor 9 = .ok (.putfield 61, 3) := by decide +kernel
theorem dX6_markOfPoor_12 : decode cX6_markOfPoor 12 = .ok (.aload_n 0, 1) := by decide +kernel
theorem dX6_markOfPoor_13 : decode cX6_markOfPoor 13 = .ok (.iload_n 1, 1) := by decide +kernel
theorem dX6_markOfPoor_14 : decode cX6_markOfPoor 14 = .ok (.invokevirtual 260, 3) := by decide +kernel
theorem dX6_markOfPoor_17 : decode cX6_markOfPoor 17 = .ok (.aload_n 0, 1) := by decide +kernel
theorem dX6_markOfPoor_18 : decode cX6_markOfPoor 18 = .ok (.getfield 26, 3) := by decide +kernel
theorem dX6_markOfPoor_21 : decode cX6_markOfPoor 21 = .ok (.getfield 119, 3) := by decide +kernel
theorem dX6_markOfPoor_24 : decode cX6_markOfPoor 24 = .ok (.iload_n 1, 1) := by decide +kernel
theorem dX6_markOfPoor_25 : decode cX6_markOfPoor 25 = .ok (.iaload, 1) := by decide +kernel
theorem dX6_markOfPoor_26 : decode cX6_markOfPoor 26 = .ok (.isub, 1) := by decide +kernel
theorem dX6_markOfPoor_27 : decode cX6_markOfPoor 27 = .ok (.ireturn, 1) := by decide +kernel
theorem dX6_markOfBurnt_0 : decode cX6_markOfBurnt 0 = .ok (.aload_n 0, 1) := by decide +kernel
theorem dX6_markOfBurnt_1 : decode cX6_markOfBurnt 1 = .ok (.dup, 1) := by decide +kernel
theorem dX6_markOfBurnt_2 : decode cX6_markOfBurnt 2 = .ok (.getfield 61, 3) := by decide +kernel
theorem dX6_markOfBurnt_5 : decode cX6_markOfBurnt 5 = .ok (.ldc2_w 286, 3) := by decide +kernel
theorem dX6_markOfBurnt_8 : decode cX6_markOfBurnt 8 = .ok (.ladd, 1) := by decide +kernel
theorem dX6_markOfBurnt_9 : decode cX6_markOfBurnt 9 = .ok (.putfield 61, 3) := by decide +kernel
theorem dX6_markOfBurnt_12 : decode cX6_markOfBurnt 12 = .ok (.aload_n 0, 1) := by decide +kernel
theorem dX6_markOfBurnt_13 : decode cX6_markOfBurnt 13 = .ok (.iload_n 1, 1) := by decide +kernel
theorem dX6_markOfBurnt_14 : decode cX6_markOfBurnt 14 = .ok (.invokevirtual 254, 3) := by decide +kernel
theorem dX6_markOfBurnt_17 : decode cX6_markOfBurnt 17 = .ok (.aload_n 0, 1) := by decide +kernel
theorem dX6_markOfBurnt_18 : decode cX6_markOfBurnt 18 = .ok (.getfield 33, 3) := by decide +kernel
theorem dX6_markOfBurnt_21 : decode cX6_markOfBurnt 21 = .ok (.getfield 129, 3) := by decide +kernel
theorem dX6_markOfBurnt_24 : decode cX6_markOfBurnt 24 = .ok (.iadd, 1) := by decide +kernel
theorem dX6_markOfBurnt_25 : decode cX6_markOfBurnt 25 = .ok (.ireturn, 1) := by decide +kernel
end
section
theorem dX7_init_0 : decode cX7_init 0 = .ok (.aload_n 0, 1) := by decide +kernel
theorem dX7_init_1 : decode cX7_init 1 = .ok (.invokespecial 1, 3) := by decide +kernel
theorem dX7_init_4 : decode cX7_init 4 = .ok (.aload_n 0, 1) := by decide +kernel
theorem dX7_init_5 : decode cX7_init 5 = .ok (.sipush 300, 3) := by decide +kernel
theorem dX7_init_8 : decode cX7_init 8 = .ok (.newarray .byte, 2) := by decide +kernel
theorem dX7_init_10 : decode cX7_init 10 = .ok (.putfield 7, 3) := by decide +kernel
theorem dX7_init_13 : decode cX7_init 13 = .ok (.aload_n 0, 1) := by decide +kernel
theorem dX7_init_14 : decode cX7_init 14 = .ok (.iconst 2, 1) := by decide +kernel
theorem dX7_init_15 : decode cX7_init 15 = .ok (.newarray .int, 2) := by decide +kernel
theorem dX7_init_17 : decode cX7_init 17 = .ok (.putfield 13, 3) := by decide +kernel
theorem dX7_init_20 : decode cX7_init 20 = .ok (.aload_n 0, 1) := by decide +kernel
theorem dX7_init_21 : decode cX7_init 21 = .ok (.bipush 60, 2) := by decide +kernel
theorem dX7_init_23 : decode cX7_init 23 = .ok (.newarray .int, 2) := by decide +kernel
theorem dX7_init_25 : decode cX7_init 25 = .ok (.putfield 17, 3) := by decide +kernel
theorem dX7_init_28 : decode cX7_init 28 = .ok (.aload_n 0, 1) := by decide +kernel
theorem dX7_init_29 : decode cX7_init 29 = .ok (.iconst 2, 1) := by decide +kernel
theorem dX7_init_30 : decode cX7_init 30 = .ok (.newarray .int, 2) := by decide +kernel
theorem dX7_init_32 : decode cX7_init 32 = .ok (.putfield 20, 3) := by decide +kernel
theorem dX7_init_35 : decode cX7_init 35 = .ok (.aload_n 0, 1) := by decide +kernel
theorem dX7_init_36 : decode cX7_init 36 = .ok (.bipush 80, 2) := by decide +kernel
theorem dX7_init_38 : decode cX7_init 38 = .ok (.newarray .int, 2) := by decide +kernel
theorem dX7_init_40 : decode cX7_init 40 = .ok (.putfield 23, 3) := by decide +kernel
theorem dX7_init_43 : decode cX7_init 43 = .ok (.aload_n 0, 1) := by decide +kernel
theorem dX7_init_44 : decode cX7_init 44 = .ok (.bipush 16, 2) := by decide +kernel
theorem dX7_init_46 : decode cX7_init 46 = .ok (.newarray .int, 2) := by decide +kernel
theorem dX7_init_48 : decode cX7_init 48 = .ok (.putfield 26, 3) := by decide +kernel
theorem dX7_init_51 : decode cX7_init 51 = .ok (.aload_n 0, 1) := by decide +kernel
theorem dX7_init_52 : decode cX7_init 52 = .ok (.bipush 16, 2) := by decide +kernel
theorem dX7_init_54 : decode cX7_init 54 = .ok (.newarray .int, 2) := by decide +kernel
theorem dX7_init_56 : decode cX7_init 56 = .ok (.putfield 29, 3) := by decide +kernel
theorem dX7_init_59 : decode cX7_init 59 = .ok (.aload_n 0, 1) := by decide +kernel
theorem dX7_init_60 : decode cX7_init 60 = .ok (.iconst 2, 1) := by decide +kernel
theorem dX7_init_61 : decode cX7_init 61 = .ok (.newarray .int, 2) := by decide +kernel
theorem dX7_init_63 : decode cX7_init 63 = .ok (.putfield 32, 3) := by decide +kernel
theorem dX7_init_66 : decode cX7_init 66 = .ok (.aload_n 0, 1) := by decide +kernel
theorem dX7_init_67 : decode cX7_init 67 = .ok (.sipush 219, 3) := by decide +kernel
theorem dX7_init_70 : decode cX7_init 70 = .ok (.newarray .int, 2) := by decide +kernel
theorem dX7_init_72 : decode cX7_init 72 = .ok (.putfield 35, 3) := by decide +kernel
theorem dX7_init_75 : decode cX7_init 75 = .ok (.aload_n 0, 1) := by decide +kernel
theorem dX7_init_76 : decode cX7_init 76 = .ok (.iconst 2, 1) := by decide +kernel
theorem dX7_init_77 : decode cX7_init 77 = .ok (.newarray .boolean, 2) := by decide +kernel
theorem dX7_init_79 : decode cX7_init 79 = .ok (.putfield 38, 3) := by decide +kernel
theorem dX7_init_82 : decode cX7_init 82 = .ok (.aload_n 0, 1) := by decide +kernel
theorem dX7_init_83 : decode cX7_init 83 = .ok (.iconst 3, 1) := by decide +kernel
theorem dX7_init_84 : decode cX7_init 84 = .ok (.newarray .int, 2) := by decide +kernel
theorem dX7_init_86 : decode cX7_init 86 = .ok (.putfield 42, 3) := by decide +kernel
theorem dX7_init_89 : decode cX7_init 89 = .ok (.aload_n 0, 1) := by decide +kernel
theorem dX7_init_90 : decode cX7_init 90 = .ok (.iconst 3, 1) := by decide +kernel
theorem dX7_init_91 : decode cX7_init 91 = .ok (.newarray .int, 2) := by decide +kernel
theorem dX7_init_93 : decode cX7_init 93 = .ok (.putfield 45, 3) := by decide +kernel
theorem dX7_init_96 : decode cX7_init 96 = .ok (.aload_n 0, 1) := by decide +kernel
theorem dX7_init_97 : decode cX7_init 97 = .ok (.iconst 3, 1) := by decide +kernel
theorem dX7_init_98 : decode cX7_init 98 = .ok (.newarray .int, 2) := by decide +kernel
theorem dX7_init_100 : decode cX7_init 100 = .ok (.putfield 48, 3) := by decide +kernel
theorem dX7_init_103 : decode cX7_init 103 = .ok (.aload_n 0, 1) := by decide +kernel
theorem dX7_init_104 : decode cX7_init 104 = .ok (.bipush 8, 2) := by decide +kernel
theorem dX7_init_106 : decode cX7_init 106 = .ok (.newarray .long, 2) := by decide +kernel
theorem dX7_init_108 : decode cX7_init 108 = .ok (.putfield 51, 3) := by decide +kernel
theorem dX7_init_111 : decode cX7_init 111 = .ok (.aload_n 0, 1) := by decide +kernel
theorem dX7_init_112 : decode cX7_init 112 = .ok (.bipush 8, 2) := by decide +kernel
theorem dX7_init_114 : decode cX7_init 114 = .ok (.newarray .long, 2) := by decide +kernel
theorem dX7_init_116 : decode cX7_init 116 = .ok (.putfield 55, 3) := by decide +kernel
theorem dX7_init_119 : decode cX7_init 119 = .ok (.aload_n 0, 1) := by decide +kernel
theorem dX7_init_120 : decode cX7_init 120 = .ok (.iconst 5, 1) := by decide +kernel
theorem dX7_init_121 : decode cX7_init 121 = .ok (.newarray .int, 2) := by decide +kernel
theorem dX7_init_123 : decode cX7_init 123 = .ok (.putfield 58, 3) := by decide +kernel
theorem dX7_init_126 : decode cX7_init 126 = .ok (.aload_n 0, 1) := by decide +kernel
theorem dX7_init_127 : decode cX7_init 127 = .ok (.getfield 35, 3) := by decide +kernel
theorem dX7_init_130 : decode cX7_init 130 = .ok (.bipush 31, 2) := by decide +kernel
theorem dX7_init_132 : decode cX7_init 132 = .ok (.iconst 1, 1) := by decide +kernel
theorem dX7_init_133 : decode cX7_init 133 = .ok (.iastore, 1) := by decide +kernel
theorem dX7_init_134 : decode cX7_init 134 = .ok (.return_, 1) := by decide +kernel
theorem dX7_in_0 : decode cX7_in 0 = .ok (.iload_n 0, 1) := by decide +kernel
theorem dX7_in_1 : decode cX7_in 1 = .ok (.iload_n 1, 1) := by decide +kernel
theorem dX7_in_2 : decode cX7_in 2 = .ok (.if_icmp .lt 12, 3) := by decide +kernel
theorem dX7_in_5 : decode cX7_in 5 = .ok (.iload_n 0, 1) := by decide +kernel
theorem dX7_in_6 : decode cX7_in 6 = .ok (.iload_n 2, 1) := by decide +kernel
theorem dX7_in_7 : decode cX7_in 7 = .ok (.if_icmp .gt 7, 3) := by decide +kernel
theorem dX7_in_10 : decode cX7_in 10 = .ok (.iconst 1, 1) := by decide +kernel
theorem dX7_in_11 : decode cX7_in 11 = .ok (.goto 4, 3) := by decide +kernel
theorem dX7_in_14 : decode cX7_in 14 = .ok (.iconst 0, 1) := by decide +kernel
theorem dX7_in_15 : decode cX7_in 15 = .ok (.ireturn, 1) := by decide +kernel
theorem dX7_type_0 : decode cX7_type 0 = .ok (.iload_n 3, 1) := by decide +kernel
theorem dX7_type_1 : decode cX7_type 1 = .ok (.iconst 1, 1) := by decide +kernel
theorem dX7_type_2 : decode cX7_type 2 = .ok (.bipush 8, 2) := by decide +kernel
theorem dX7_type_4 : decode cX7_type 4 = .ok (.invokestatic 61, 3) := by decide +kernel
theorem dX7_type_7 : decode cX7_type 7 = .ok (.ifCond .ne 5, 3) := by decide +kernel
theorem dX7_type_10 : decode cX7_type 10 = .ok (.iconst (-1), 1) := by decide +kernel
theorem dX7_type_11 : decode cX7_type 11 = .ok (.ireturn, 1) := by decide +kernel
theorem dX7_type_12 : decode cX7_type 12 = .ok (.aload_n 0, 1) := by decide +kernel
theorem dX7_type_13 : decode cX7_type 13 = .ok (.getfield 65, 3) := by decide +kernel
theorem dX7_type_16 : decode cX7_type 16 = .ok (.iload_n 3, 1) := by decide +kernel
theorem dX7_type_17 : decode cX7_type 17 = .ok (.iadd, 1) := by decide +kernel
theorem dX7_type_18 : decode cX7_type 18 = .ok (.sipush 300, 3) := by decide +kernel
theorem dX7_type_21 : decode cX7_type 21 = .ok (.if_icmp .le 6, 3) := by decide +kernel
theorem dX7_type_24 : decode cX7_type 24 = .ok (.bipush (-3), 2) := by decide +kernel
theorem dX7_type_26 : decode cX7_type 26 = .ok (.ireturn, 1) := by decide +kernel
theorem dX7_type_27 : decode cX7_type 27 = .ok (.iload_n 3, 1) := by decide +kernel
theorem dX7_type_28 : decode cX7_type 28 = .ok (.iconst 1, 1) := by decide +kernel
theorem dX7_type_29 : decode cX7_type 29 = .ok (.isub, 1) := by decide +kernel
theorem dX7_type_30 : decode cX7_type 30 = .ok (.istore 4, 2) := by decide +kernel
theorem dX7_type_32 : decode cX7_type 32 = .ok (.iload 4, 2) := by decide +kernel
theorem dX7_type_34 : decode cX7_type 34 = .ok (.ifCond .lt 41, 3) := by decide +kernel
theorem dX7_type_37 : decode cX7_type 37 = .ok (.aload_n 0, 1) := by decide +kernel
theorem dX7_type_38 : decode cX7_type 38 = .ok (.getfield 7, 3) := by decide +kernel
theorem dX7_type_41 : decode cX7_type 41 = .ok (.aload_n 0, 1) := by decide +kernel
theorem dX7_type_42 : decode cX7_type 42 = .ok (.getfield 65, 3) := by decide +kernel
theorem dX7_type_45 : decode cX7_type 45 = .ok (.lload_n 1, 1) := by decide +kernel
theorem dX7_type_46 : decode cX7_type 46 = .ok (.bipush 8, 2) := by decide +kernel
theorem dX7_type_48 : decode cX7_type 48 = .ok (.iload 4, 2) := by decide +kernel
theorem dX7_type_50 : decode cX7_type 50 = .ok (.imul, 1) := by decide +kernel
theorem dX7_type_51 : decode cX7_type 51 = .ok (.lshr, 1) := by decide +kernel
theorem dX7_type_52 : decode cX7_type 52 = .ok (.ldc2_w 69, 3) := by decide +kernel
theorem dX7_type_55 : decode cX7_type 55 = .ok (.land, 1) := by decide +kernel
theorem dX7_type_56 : decode cX7_type 56 = .ok (.l2i, 1) := by decide +kernel
theorem dX7_type_57 : decode cX7_type 57 = .ok (.i2b, 1) := by decide +kernel
theorem dX7_type_58 : decode cX7_type 58 = .ok (.bastore, 1) := by decide +kernel
theorem dX7_type_59 : decode cX7_type 59 = .ok (.aload_n 0, 1) := by decide +kernel
theorem dX7_type_60 : decode cX7_type 60 = .ok (.dup, 1) := by decide +kernel
theorem dX7_type_61 : decode cX7_type 61 = .ok (.getfield 65, 3) := by decide +kernel
theorem dX7_type_64 : decode cX7_type 64 = .ok (.iconst 1, 1) := by decide +kernel
theorem dX7_type_65 : decode cX7_type 65 = .ok (.iadd, 1) := by decide +kernel
theorem dX7_type_66 : decode cX7_type 66 = .ok (.putfield 65, 3) := by decide +kernel
theorem dX7_type_69 : decode cX7_type 69 = .ok (.iinc 4 (-1), 3) := by decide +kernel
theorem dX7_type_72 : decode cX7_type 72 = .ok (.goto (-40), 3) := by decide +kernel
theorem dX7_type_75 : decode cX7_type 75 = .ok (.aload_n 0, 1) := by decide +kernel
theorem dX7_type_76 : decode cX7_type 76 = .ok (.getfield 65, 3) := by decide +kernel
theorem dX7_type_79 : decode cX7_type 79 = .ok (.ireturn, 1) := by decide +kernel
theorem dX7_clear_0 : decode cX7_clear 0 = .ok (.aload_n 0, 1) := by decide +kernel
theorem dX7_clear_1 : decode cX7_clear 1 = .ok (.getfield 65, 3) := by decide +kernel
theorem dX7_clear_4 : decode cX7_clear 4 = .ok (.istore_n 1, 1) := by decide +kernel
theorem dX7_clear_5 : decode cX7_clear 5 = .ok (.aload_n 0, 1) := by decide +kernel
theorem dX7_clear_6 : decode cX7_clear 6 = .ok (.iconst 0, 1) := by decide +kernel
theorem dX7_clear_7 : decode cX7_clear 7 = .ok (.putfield 65, 3) := by decide +kernel
theorem dX7_clear_10 : decode cX7_clear 10 = .ok (.iload_n 1, 1) := by decide +kernel
theorem dX7_clear_11 : decode cX7_clear 11 = .ok (.ireturn, 1) := by decide +kernel
theorem dX7_here_0 : decode cX7_here 0 = .ok (.aload_n 0, 1) := by decide +kernel
theorem dX7_here_1 : decode cX7_here 1 = .ok (.getfield 71, 3) := by decide +kernel
theorem dX7_here_4 : decode cX7_here 4 = .ok (.aload_n 0, 1) := by decide +kernel
theorem dX7_here_5 : decode cX7_here 5 = .ok (.getfield 65, 3) := by decide +kernel
theorem dX7_here_8 : decode cX7_here 8 = .ok (.if_icmp .ge 19, 3) := by decide +kernel
theorem dX7_here_11 : decode cX7_here 11 = .ok (.aload_n 0, 1) := by decide +kernel
theorem dX7_here_12 : decode cX7_here 12 = .ok (.getfield 7, 3) := by decide +kernel
theorem dX7_here_15 : decode cX7_here 15 = .ok (.aload_n 0, 1) := by decide +kernel
theorem dX7_here_16 : decode cX7_here 16 = .ok (.getfield 71, 3) := by decide +kernel
theorem dX7_here_19 : decode cX7_here 19 = .ok (.baload, 1) := by decide +kernel
theorem dX7_here_20 : decode cX7_here 20 = .ok (.sipush 255, 3) := by decide +kernel
theorem dX7_here_23 : decode cX7_here 23 = .ok (.iand, 1) := by decide +kernel
theorem dX7_here_24 : decode cX7_here 24 = .ok (.goto 4, 3) := by decide +kernel
theorem dX7_here_27 : decode cX7_here 27 = .ok (.iconst (-1), 1) := by decide +kernel
theorem dX7_here_28 : decode cX7_here 28 = .ok (.ireturn, 1) := by decide +kernel
theorem dX7_meaning_0 : decode cX7_meaning 0 = .ok (.iload_n 0, 1) := by decide +kernel
theorem dX7_meaning_1 : decode cX7_meaning 1 = .ok (.lookupswitch 41 #[(4786, 39), (85814, 37), (4562600, 35)], 35) := by decide +kernel
theorem dX7_meaning_36 : decode cX7_meaning 36 = .ok (.iconst 0, 1) := by decide +kernel
theorem dX7_meaning_37 : decode cX7_meaning 37 = .ok (.ireturn, 1) := by decide +kernel
theorem dX7_meaning_38 : decode cX7_meaning 38 = .ok (.iconst 1, 1) := by decide +kernel
theorem dX7_meaning_39 : decode cX7_meaning 39 = .ok (.ireturn, 1) := by decide +kernel
theorem dX7_meaning_40 : decode cX7_meaning 40 = .ok (.iconst 2, 1) := by decide +kernel
theorem dX7_meaning_41 : decode cX7_meaning 41 = .ok (.ireturn, 1) := by decide +kernel
theorem dX7_meaning_42 : decode cX7_meaning 42 = .ok (.bipush 6, 2) := by decide +kernel
theorem dX7_meaning_44 : decode cX7_meaning 44 = .ok (.ireturn, 1) := by decide +kernel
theorem dX7_next_0 : decode cX7_next 0 = .ok (.aload_n 0, 1) := by decide +kernel
theorem dX7_next_1 : decode cX7_next 1 = .ok (.invokevirtual 74, 3) := by decide +kernel
theorem dX7_next_4 : decode cX7_next 4 = .ok (.bipush 32, 2) := by decide +kernel
theorem dX7_next_6 : decode cX7_next 6 = .ok (.if_icmp .ne 16, 3) := by decide +kernel
theorem dX7_next_9 : decode cX7_next 9 = .ok (.aload_n 0, 1) := by decide +kernel
theorem dX7_next_10 : decode cX7_next 10 = .ok (.dup, 1) := by decide +kernel
theorem dX7_next_11 : decode cX7_next 11 = .ok (.getfield 71, 3) := by decide +kernel
theorem dX7_next_14 : decode cX7_next 14 = .ok (.iconst 1, 1) := by decide +kernel
theorem dX7_next_15 : decode cX7_next 15 = .ok (.iadd, 1) := by decide +kernel
theorem dX7_next_16 : decode cX7_next 16 = .ok (.putfield 71, 3) := by decide +kernel
theorem dX7_next_19 : decode cX7_next 19 = .ok (.goto (-19), 3) := by decide +kernel
theorem dX7_next_22 : decode cX7_next 22 = .ok (.aload_n 0, 1) := by decide +kernel
theorem dX7_next_23 : decode cX7_next 23 = .ok (.aload_n 0, 1) := by decide +kernel
theorem dX7_next_24 : decode cX7_next 24 = .ok (.getfield 71, 3) := by decide +kernel
theorem dX7_next_27 : decode cX7_next 27 = .ok (.putfield 78, 3) := by decide +kernel
theorem dX7_next_30 : decode cX7_next 30 = .ok (.aload_n 0, 1) := by decide +kernel
theorem dX7_next_31 : decode cX7_next 31 = .ok (.iconst 0, 1) := by decide +kernel
theorem dX7_next_32 : decode cX7_next 32 = .ok (.putfield 81, 3) := by decide +kernel
theorem dX7_next_35 : decode cX7_next 35 = .ok (.aload_n 0, 1) := by decide +kernel
theorem dX7_next_36 : decode cX7_next 36 = .ok (.invokevirtual 74, 3) := by decide +kernel
theorem dX7_next_39 : decode cX7_next 39 = .ok (.istore_n 1, 1) := by decide +kernel
theorem dX7_next_40 : decode cX7_next 40 = .ok (.iload_n 1, 1) := by decide +kernel
theorem dX7_next_41 : decode cX7_next 41 = .ok (.ifCond .ge 11, 3) := by decide +kernel
theorem dX7_next_44 : decode cX7_next 44 = .ok (.aload_n 0, 1) := by decide +kernel
theorem dX7_next_45 : decode cX7_next 45 = .ok (.iconst 3, 1) := by decide +kernel
theorem dX7_next_46 : decode cX7_next 46 = .ok (.putfield 84, 3) := by decide +kernel
theorem dX7_next_49 : decode cX7_next 49 = .ok (.goto 241, 3) := by decide +kernel
theorem dX7_next_52 : decode cX7_next 52 = .ok (.iload_n 1, 1) := by decide +kernel
theorem dX7_next_53 : decode cX7_next 53 = .ok (.bipush 97, 2) := by decide +kernel
theorem dX7_next_55 : decode cX7_next 55 = .ok (.bipush 122, 2) := by decide +kernel
theorem dX7_next_57 : decode cX7_next 57 = .ok (.invokestatic 61, 3) := by decide +kernel
theorem dX7_next_60 : decode cX7_next 60 = .ok (.ifCond .eq 90, 3) := by decide +kernel
theorem dX7_next_63 : decode cX7_next 63 = .ok (.iconst 0, 1) := by decide +kernel
theorem dX7_next_64 : decode cX7_next 64 = .ok (.istore_n 2, 1) := by decide +kernel
theorem dX7_next_65 : decode cX7_next 65 = .ok (.aload_n 0, 1) := by decide +kernel
theorem dX7_next_66 : decode cX7_next 66 = .ok (.invokevirtual 74, 3) := by decide +kernel
theorem dX7_next_69 : decode cX7_next 69 = .ok (.bipush 97, 2) := by decide +kernel
theorem dX7_next_71 : decode cX7_next 71 = .ok (.bipush 122, 2) := by decide +kernel
theorem dX7_next_73 : decode cX7_next 73 = .ok (.invokestatic 61, 3) := by decide +kernel
theorem dX7_next_76 : decode cX7_next 76 = .ok (.ifCond .eq 46, 3) := by decide +kernel
theorem dX7_next_79 : decode cX7_next 79 = .ok (.aload_n 0, 1) := by decide +kernel
theorem dX7_next_80 : decode cX7_next 80 = .ok (.getfield 71, 3) := by decide +kernel
theorem dX7_next_83 : decode cX7_next 83 = .ok (.aload_n 0, 1) := by decide +kernel
theorem dX7_next_84 : decode cX7_next 84 = .ok (.getfield 78, 3) := by decide +kernel
theorem dX7_next_87 : decode cX7_next 87 = .ok (.isub, 1) := by decide +kernel
theorem dX7_next_88 : decode cX7_next 88 = .ok (.iconst 5, 1) := by decide +kernel
theorem dX7_next_89 : decode cX7_next 89 = .ok (.if_icmp .ge 18, 3) := by decide +kernel
theorem dX7_next_92 : decode cX7_next 92 = .ok (.bipush 27, 2) := by decide +kernel
theorem dX7_next_94 : decode cX7_next 94 = .ok (.iload_n 2, 1) := by decide +kernel
theorem dX7_next_95 : decode cX7_next 95 = .ok (.imul, 1) := by decide +kernel
theorem dX7_next_96 : decode cX7_next 96 = .ok (.aload_n 0, 1) := by decide +kernel
theorem dX7_next_97 : decode cX7_next 97 = .ok (.invokevirtual 74, 3) := by decide +kernel
theorem dX7_next_100 : decode cX7_next 100 = .ok (.iadd, 1) := by decide +kernel
theorem dX7_next_101 : decode cX7_next 101 = .ok (.bipush 96, 2) := by decide +kernel
theorem dX7_next_103 : decode cX7_next 103 = .ok (.isub, 1) := by decide +kernel
theorem dX7_next_104 : decode cX7_next 104 = .ok (.goto 4, 3) := by decide +kernel
theorem dX7_next_107 : decode cX7_next 107 = .ok (.iconst 0, 1) := by decide +kernel
theorem dX7_next_108 : decode cX7_next 108 = .ok (.istore_n 2, 1) := by decide +kernel
theorem dX7_next_109 : decode cX7_next 109 = .ok (.aload_n 0, 1) := by decide +kernel
theorem dX7_next_110 : decode cX7_next 110 = .ok (.dup, 1) := by decide +kernel
theorem dX7_next_111 : decode cX7_next 111 = .ok (.getfield 71, 3) := by decide +kernel
theorem dX7_next_114 : decode cX7_next 114 = .ok (.iconst 1, 1) := by decide +kernel
theorem dX7_next_115 : decode cX7_next 115 = .ok (.iadd, 1) := by decide +kernel
theorem dX7_next_116 : decode cX7_next 116 = .ok (.putfield 71, 3) := by decide +kernel
theorem dX7_next_119 : decode cX7_next 119 = .ok (.goto (-54), 3) := by decide +kernel
theorem dX7_next_122 : decode cX7_next 122 = .ok (.aload_n 0, 1) := by decide +kernel
theorem dX7_next_123 : decode cX7_next 123 = .ok (.aload_n 0, 1) := by decide +kernel
theorem dX7_next_124 : decode cX7_next 124 = .ok (.getfield 71, 3) := by decide +kernel
theorem dX7_next_127 : decode cX7_next 127 = .ok (.aload_n 0, 1) := by decide +kernel
theorem dX7_next_128 : decode cX7_next 128 = .ok (.getfield 78, 3) := by decide +kernel
theorem dX7_next_131 : decode cX7_next 131 = .ok (.isub, 1) := by decide +kernel
theorem dX7_next_132 : decode cX7_next 132 = .ok (.iconst 5, 1) := by decide +kernel
theorem dX7_next_133 : decode cX7_next 133 = .ok (.if_icmp .le 7, 3) := by decide +kernel
theorem dX7_next_136 : decode cX7_next 136 = .ok (.iconst 0, 1) := by decide +kernel
theorem dX7_next_137 : decode cX7_next 137 = .ok (.goto 4, 3) := by decide +kernel
theorem dX7_next_140 : decode cX7_next 140 = .ok (.iload_n 2, 1) := by decide +kernel
theorem dX7_next_141 : decode cX7_next 141 = .ok (.invokestatic 87, 3) := by decide +kernel
theorem dX7_next_144 : decode cX7_next 144 = .ok (.putfield 84, 3) := by decide +kernel
theorem dX7_next_147 : decode cX7_next 147 = .ok (.goto 143, 3) := by decide +kernel
theorem dX7_next_150 : decode cX7_next 150 = .ok (.iload_n 1, 1) := by decide +kernel
theorem dX7_next_151 : decode cX7_next 151 = .ok (.bipush 48, 2) := by decide +kernel
theorem dX7_next_153 : decode cX7_next 153 = .ok (.bipush 57, 2) := by decide +kernel
theorem dX7_next_155 : decode cX7_next 155 = .ok (.invokestatic 61, 3) := by decide +kernel
theorem dX7_next_158 : decode cX7_next 158 = .ok (.ifCond .eq 106, 3) := by decide +kernel
theorem dX7_next_161 : decode cX7_next 161 = .ok (.aload_n 0, 1) := by decide +kernel
theorem dX7_next_162 : decode cX7_next 162 = .ok (.invokevirtual 74, 3) := by decide +kernel
theorem dX7_next_165 : decode cX7_next 165 = .ok (.bipush 48, 2) := by decide +kernel
theorem dX7_next_167 : decode cX7_next 167 = .ok (.bipush 57, 2) := by decide +kernel
theorem dX7_next_169 : decode cX7_next 169 = .ok (.invokestatic 61, 3) := by decide +kernel
theorem dX7_next_172 : decode cX7_next 172 = .ok (.ifCond .eq 51, 3) := by decide +kernel
theorem dX7_next_175 : decode cX7_next 175 = .ok (.aload_n 0, 1) := by decide +kernel
theorem dX7_next_176 : decode cX7_next 176 = .ok (.aload_n 0, 1) := by decide +kernel
theorem dX7_next_177 : decode cX7_next 177 = .ok (.getfield 81, 3) := by decide +kernel
theorem dX7_next_180 : decode cX7_next 180 = .ok (.bipush 99, 2) := by decide +kernel
theorem dX7_next_182 : decode cX7_next 182 = .ok (.if_icmp .le 10, 3) := by decide +kernel
theorem dX7_next_185 : decode cX7_next 185 = .ok (.aload_n 0, 1) := by decide +kernel
theorem dX7_next_186 : decode cX7_next 186 = .ok (.getfield 81, 3) := by decide +kernel
theorem dX7_next_189 : decode cX7_next 189 = .ok (.goto 18, 3) := by decide +kernel
theorem dX7_next_192 : decode cX7_next 192 = .ok (.bipush 10, 2) := by decide +kernel
theorem dX7_next_194 : decode cX7_next 194 = .ok (.aload_n 0, 1) := by decide +kernel
theorem dX7_next_195 : decode cX7_next 195 = .ok (.getfield 81, 3) := by decide +kernel
theorem dX7_next_198 : decode cX7_next 198 = .ok (.imul, 1) := by decide +kernel
theorem dX7_next_199 : decode cX7_next 199 = .ok (.aload_n 0, 1) := by decide +kernel
theorem dX7_next_200 : decode cX7_next 200 = .ok (.invokevirtual 74, 3) := by decide +kernel
theorem dX7_next_203 : decode cX7_next 203 = .ok (.iadd, 1) := by decide +kernel
theorem dX7_next_204 : decode cX7_next 204 = .ok (.bipush 48, 2) := by decide +kernel
theorem dX7_next_206 : decode cX7_next 206 = .ok (.isub, 1) := by decide +kernel
theorem dX7_next_207 : decode cX7_next 207 = .ok (.putfield 81, 3) := by decide +kernel
theorem dX7_next_210 : decode cX7_next 210 = .ok (.aload_n 0, 1) := by decide +kernel
theorem dX7_next_211 : decode cX7_next 211 = .ok (.dup, 1) := by decide +kernel
theorem dX7_next_212 : decode cX7_next 212 = .ok (.getfield 71, 3) := by decide +kernel
theorem dX7_next_215 : decode cX7_next 215 = .ok (.iconst 1, 1) := by decide +kernel
theorem dX7_next_216 : decode cX7_next 216 = .ok (.iadd, 1) := by decide +kernel
theorem dX7_next_217 : decode cX7_next 217 = .ok (.putfield 71, 3) := by decide +kernel
theorem dX7_next_220 : decode cX7_next 220 = .ok (.goto (-59), 3) := by decide +kernel
theorem dX7_next_223 : decode cX7_next 223 = .ok (.aload_n 0, 1) := by decide +kernel
theorem dX7_next_224 : decode cX7_next 224 = .ok (.aload_n 0, 1) := by decide +kernel
theorem dX7_next_225 : decode cX7_next 225 = .ok (.getfield 81, 3) := by decide +kernel
theorem dX7_next_228 : decode cX7_next 228 = .ok (.bipush 99, 2) := by decide +kernel
theorem dX7_next_230 : decode cX7_next 230 = .ok (.if_icmp .gt 22, 3) := by decide +kernel
theorem dX7_next_233 : decode cX7_next 233 = .ok (.iload_n 1, 1) := by decide +kernel
theorem dX7_next_234 : decode cX7_next 234 = .ok (.bipush 48, 2) := by decide +kernel
theorem dX7_next_236 : decode cX7_next 236 = .ok (.if_icmp .ne 21, 3) := by decide +kernel
theorem dX7_next_239 : decode cX7_next 239 = .ok (.aload_n 0, 1) := by decide +kernel
theorem dX7_next_240 : decode cX7_next 240 = .ok (.getfield 71, 3) := by decide +kernel
theorem dX7_next_243 : decode cX7_next 243 = .ok (.aload_n 0, 1) := by decide +kernel
theorem dX7_next_244 : decode cX7_next 244 = .ok (.getfield 78, 3) := by decide +kernel
theorem dX7_next_247 : decode cX7_next 247 = .ok (.isub, 1) := by decide +kernel
theorem dX7_next_248 : decode cX7_next 248 = .ok (.iconst 1, 1) := by decide +kernel
theorem dX7_next_249 : decode cX7_next 249 = .ok (.if_icmp .le 8, 3) := by decide +kernel
theorem dX7_next_252 : decode cX7_next 252 = .ok (.bipush 6, 2) := by decide +kernel
theorem dX7_next_254 : decode cX7_next 254 = .ok (.goto 4, 3) := by decide +kernel
theorem dX7_next_257 : decode cX7_next 257 = .ok (.iconst 4, 1) := by decide +kernel
theorem dX7_next_258 : decode cX7_next 258 = .ok (.putfield 84, 3) := by decide +kernel
theorem dX7_next_261 : decode cX7_next 261 = .ok (.goto 29, 3) := by decide +kernel
theorem dX7_next_264 : decode cX7_next 264 = .ok (.aload_n 0, 1) := by decide +kernel
theorem dX7_next_265 : decode cX7_next 265 = .ok (.dup, 1) := by decide +kernel
theorem dX7_next_266 : decode cX7_next 266 = .ok (.getfield 71, 3) := by decide +kernel
theorem dX7_next_269 : decode cX7_next 269 = .ok (.iconst 1, 1) := by decide +kernel
theorem dX7_next_270 : decode cX7_next 270 = .ok (.iadd, 1) := by decide +kernel
theorem dX7_next_271 : decode cX7_next 271 = .ok (.putfield 71, 3) := by decide +kernel
theorem dX7_next_274 : decode cX7_next 274 = .ok (.aload_n 0, 1) := by decide +kernel
theorem dX7_next_275 : decode cX7_next 275 = .ok (.iload_n 1, 1) := by decide +kernel
theorem dX7_next_276 : decode cX7_next 276 = .ok (.bipush 59, 2) := by decide +kernel
theorem dX7_next_278 : decode cX7_next 278 = .ok (.if_icmp .ne 7, 3) := by decide +kernel
theorem dX7_next_281 : decode cX7_next 281 = .ok (.iconst 5, 1) := by decide +kernel
theorem dX7_next_282 : decode cX7_next 282 = .ok (.goto 5, 3) := by decide +kernel
theorem dX7_next_285 : decode cX7_next 285 = .ok (.bipush 6, 2) := by decide +kernel
theorem dX7_next_287 : decode cX7_next 287 = .ok (.putfield 84, 3) := by decide +kernel
theorem dX7_next_290 : decode cX7_next 290 = .ok (.return_, 1) := by decide +kernel
theorem dX7_due_0 : decode cX7_due 0 = .ok (.aload_n 0, 1) := by decide +kernel
theorem dX7_due_1 : decode cX7_due 1 = .ok (.getfield 81, 3) := by decide +kernel
theorem dX7_due_4 : decode cX7_due 4 = .ok (.istore_n 2, 1) := by decide +kernel
theorem dX7_due_5 : decode cX7_due 5 = .ok (.aload_n 0, 1) := by decide +kernel
theorem dX7_due_6 : decode cX7_due 6 = .ok (.getfield 91, 3) := by decide +kernel
theorem dX7_due_9 : decode cX7_due 9 = .ok (.bipush (-9), 2) := by decide +kernel
theorem dX7_due_11 : decode cX7_due 11 = .ok (.if_icmp .ne 22, 3) := by decide +kernel
theorem dX7_due_14 : decode cX7_due 14 = .ok (.iload_n 1, 1) := by decide +kernel
theorem dX7_due_15 : decode cX7_due 15 = .ok (.ifCond .eq 10, 3) := by decide +kernel
theorem dX7_due_18 : decode cX7_due 18 = .ok (.aload_n 0, 1) := by decide +kernel
theorem dX7_due_19 : decode cX7_due 19 = .ok (.invokevirtual 94, 3) := by decide +kernel
theorem dX7_due_22 : decode cX7_due 22 = .ok (.goto 11, 3) := by decide +kernel
theorem dX7_due_25 : decode cX7_due 25 = .ok (.aload_n 0, 1) := by decide +kernel
theorem dX7_due_26 : decode cX7_due 26 = .ok (.aload_n 0, 1) := by decide +kernel
theorem dX7_due_27 : decode cX7_due 27 = .ok (.getfield 78, 3) := by decide +kernel
theorem dX7_due_30 : decode cX7_due 30 = .ok (.putfield 91, 3) := by decide +kernel
theorem dX7_due_33 : decode cX7_due 33 = .ok (.iload_n 2, 1) := by decide +kernel
theorem dX7_due_34 : decode cX7_due 34 = .ok (.ireturn, 1) := by decide +kernel
theorem dX7_number_0 : decode cX7_number 0 = .ok (.aload_n 0, 1) := by decide +kernel
theorem dX7_number_1 : decode cX7_number 1 = .ok (.aload_n 0, 1) := by decide +kernel
theorem dX7_number_2 : decode cX7_number 2 = .ok (.getfield 84, 3) := by decide +kernel
theorem dX7_number_5 : decode cX7_number 5 = .ok (.iconst 4, 1) := by decide +kernel
theorem dX7_number_6 : decode cX7_number 6 = .ok (.if_icmp .ne 19, 3) := by decide +kernel
theorem dX7_number_9 : decode cX7_number 9 = .ok (.aload_n 0, 1) := by decide +kernel
theorem dX7_number_10 : decode cX7_number 10 = .ok (.getfield 81, 3) := by decide +kernel
theorem dX7_number_13 : decode cX7_number 13 = .ok (.iconst 0, 1) := by decide +kernel
theorem dX7_number_14 : decode cX7_number 14 = .ok (.iload_n 1, 1) := by decide +kernel
theorem dX7_number_15 : decode cX7_number 15 = .ok (.invokestatic 61, 3) := by decide +kernel
theorem dX7_number_18 : decode cX7_number 18 = .ok (.ifCond .eq 7, 3) := by decide +kernel
theorem dX7_number_21 : decode cX7_number 21 = .ok (.iconst 1, 1) := by decide +kernel
theorem dX7_number_22 : decode cX7_number 22 = .ok (.goto 4, 3) := by decide +kernel
theorem dX7_number_25 : decode cX7_number 25 = .ok (.iconst 0, 1) := by decide +kernel
theorem dX7_number_26 : decode cX7_number 26 = .ok (.invokevirtual 97, 3) := by decide +kernel
theorem dX7_number_29 : decode cX7_number 29 = .ok (.ireturn, 1) := by decide +kernel
theorem dX7_readItem_0 : decode cX7_readItem 0 = .ok (.aload_n 0, 1) := by decide +kernel
theorem dX7_readItem_1 : decode cX7_readItem 1 = .ok (.getfield 84, 3) := by decide +kernel
theorem dX7_readItem_4 : decode cX7_readItem 4 = .ok (.istore_n 1, 1) := by decide +kernel
theorem dX7_readItem_5 : decode cX7_readItem 5 = .ok (.aload_n 0, 1) := by decide +kernel
theorem dX7_readItem_6 : decode cX7_readItem 6 = .ok (.iload_n 1, 1) := by decide +kernel
theorem dX7_readItem_7 : decode cX7_readItem 7 = .ok (.ifCond .ne 14, 3) := by decide +kernel
theorem dX7_readItem_10 : decode cX7_readItem 10 = .ok (.aload_n 0, 1) := by decide +kernel
theorem dX7_readItem_11 : decode cX7_readItem 11 = .ok (.getfield 13, 3) := by decide +kernel
theorem dX7_readItem_14 : decode cX7_readItem 14 = .ok (.iconst 1, 1) := by decide +kernel
theorem dX7_readItem_15 : decode cX7_readItem 15 = .ok (.iaload, 1) := by decide +kernel
theorem dX7_readItem_16 : decode cX7_readItem 16 = .ok (.bipush 6, 2) := by decide +kernel
theorem dX7_readItem_18 : decode cX7_readItem 18 = .ok (.if_icmp .lt 31, 3) := by decide +kernel
theorem dX7_readItem_21 : decode cX7_readItem 21 = .ok (.iload_n 1, 1) := by decide +kernel
theorem dX7_readItem_22 : decode cX7_readItem 22 = .ok (.iconst 1, 1) := by decide +kernel
theorem dX7_readItem_23 : decode cX7_readItem 23 = .ok (.if_icmp .ne 14, 3) := by decide +kernel
theorem dX7_readItem_26 : decode cX7_readItem 26 = .ok (.aload_n 0, 1) := by decide +kernel
theorem dX7_readItem_27 : decode cX7_readItem 27 = .ok (.getfield 20, 3) := by decide +kernel
theorem dX7_readItem_30 : decode cX7_readItem 30 = .ok (.iconst 1, 1) := by decide +kernel
theorem dX7_readItem_31 : decode cX7_readItem 31 = .ok (.iaload, 1) := by decide +kernel
theorem dX7_readItem_32 : decode cX7_readItem 32 = .ok (.bipush 8, 2) := by decide +kernel
theorem dX7_readItem_34 : decode cX7_readItem 34 = .ok (.if_icmp .lt 15, 3) := by decide +kernel
theorem dX7_readItem_37 : decode cX7_readItem 37 = .ok (.iload_n 1, 1) := by decide +kernel
theorem dX7_readItem_38 : decode cX7_readItem 38 = .ok (.iconst 2, 1) := by decide +kernel
theorem dX7_readItem_39 : decode cX7_readItem 39 = .ok (.if_icmp .ne 14, 3) := by decide +kernel
theorem dX7_readItem_42 : decode cX7_readItem 42 = .ok (.aload_n 0, 1) := by decide +kernel
theorem dX7_readItem_43 : decode cX7_readItem 43 = .ok (.getfield 101, 3) := by decide +kernel
theorem dX7_readItem_46 : decode cX7_readItem 46 = .ok (.ifCond .ne 7, 3) := by decide +kernel
theorem dX7_readItem_49 : decode cX7_readItem 49 = .ok (.iconst 1, 1) := by decide +kernel
theorem dX7_readItem_50 : decode cX7_readItem 50 = .ok (.goto 4, 3) := by decide +kernel
theorem dX7_readItem_53 : decode cX7_readItem 53 = .ok (.iconst 0, 1) := by decide +kernel
theorem dX7_readItem_54 : decode cX7_readItem 54 = .ok (.invokevirtual 97, 3) := by decide +kernel
theorem dX7_readItem_57 : decode cX7_readItem 57 = .ok (.pop, 1) := by decide +kernel
theorem dX7_readItem_58 : decode cX7_readItem 58 = .ok (.aload_n 0, 1) := by decide +kernel
theorem dX7_readItem_59 : decode cX7_readItem 59 = .ok (.getfield 91, 3) := by decide +kernel
theorem dX7_readItem_62 : decode cX7_readItem 62 = .ok (.bipush (-9), 2) := by decide +kernel
theorem dX7_readItem_64 : decode cX7_readItem 64 = .ok (.if_icmp .eq 4, 3) := by decide +kernel
theorem dX7_readItem_67 : decode cX7_readItem 67 = .ok (.return_, 1) := by decide +kernel
theorem dX7_readItem_68 : decode cX7_readItem 68 = .ok (.iload_n 1, 1) := by decide +kernel
theorem dX7_readItem_69 : decode cX7_readItem 69 = .ok (.ifCond .ne 55, 3) := by decide +kernel
theorem dX7_readItem_72 : decode cX7_readItem 72 = .ok (.bipush 6, 2) := by decide +kernel
theorem dX7_readItem_74 : decode cX7_readItem 74 = .ok (.aload_n 0, 1) := by decide +kernel
theorem dX7_readItem_75 : decode cX7_readItem 75 = .ok (.getfield 13, 3) := by decide +kernel
theorem dX7_readItem_78 : decode cX7_readItem 78 = .ok (.iconst 1, 1) := by decide +kernel
theorem dX7_readItem_79 : decode cX7_readItem 79 = .ok (.iaload, 1) := by decide +kernel
theorem dX7_readItem_80 : decode cX7_readItem 80 = .ok (.iadd, 1) := by decide +kernel
theorem dX7_readItem_81 : decode cX7_readItem 81 = .ok (.istore_n 2, 1) := by decide +kernel
theorem dX7_readItem_82 : decode cX7_readItem 82 = .ok (.iconst 0, 1) := by decide +kernel
theorem dX7_readItem_83 : decode cX7_readItem 83 = .ok (.istore_n 3, 1) := by decide +kernel
theorem dX7_readItem_84 : decode cX7_readItem 84 = .ok (.iload_n 3, 1) := by decide +kernel
theorem dX7_readItem_85 : decode cX7_readItem 85 = .ok (.iconst 5, 1) := by decide +kernel
theorem dX7_readItem_86 : decode cX7_readItem 86 = .ok (.if_icmp .ge 25, 3) := by decide +kernel
theorem dX7_readItem_89 : decode cX7_readItem 89 = .ok (.aload_n 0, 1) := by decide +kernel
theorem dX7_readItem_90 : decode cX7_readItem 90 = .ok (.getfield 17, 3) := by decide +kernel
theorem dX7_readItem_93 : decode cX7_readItem 93 = .ok (.iconst 5, 1) := by decide +kernel
theorem dX7_readItem_94 : decode cX7_readItem 94 = .ok (.iload_n 2, 1) := by decide +kernel
theorem dX7_readItem_95 : decode cX7_readItem 95 = .ok (.imul, 1) := by decide +kernel
theorem dX7_readItem_96 : decode cX7_readItem 96 = .ok (.iload_n 3, 1) := by decide +kernel
theorem dX7_readItem_97 : decode cX7_readItem 97 = .ok (.iadd, 1) := by decide +kernel
theorem dX7_readItem_98 : decode cX7_readItem 98 = .ok (.aload_n 0, 1) := by decide +kernel
theorem dX7_readItem_99 : decode cX7_readItem 99 = .ok (.bipush 9, 2) := by decide +kernel
theorem dX7_readItem_101 : decode cX7_readItem 101 = .ok (.invokevirtual 105, 3) := by decide +kernel
theorem dX7_readItem_104 : decode cX7_readItem 104 = .ok (.iastore, 1) := by decide +kernel
theorem dX7_readItem_105 : decode cX7_readItem 105 = .ok (.iinc 3 1, 3) := by decide +kernel
theorem dX7_readItem_108 : decode cX7_readItem 108 = .ok (.goto (-24), 3) := by decide +kernel
theorem dX7_readItem_111 : decode cX7_readItem 111 = .ok (.aload_n 0, 1) := by decide +kernel
theorem dX7_readItem_112 : decode cX7_readItem 112 = .ok (.getfield 13, 3) := by decide +kernel
theorem dX7_readItem_115 : decode cX7_readItem 115 = .ok (.iconst 1, 1) := by decide +kernel
theorem dX7_readItem_116 : decode cX7_readItem 116 = .ok (.dup2, 1) := by decide +kernel
theorem dX7_readItem_117 : decode cX7_readItem 117 = .ok (.iaload, 1) := by decide +kernel
theorem dX7_readItem_118 : decode cX7_readItem 118 = .ok (.iconst 1, 1) := by decide +kernel
theorem dX7_readItem_119 : decode cX7_readItem 119 = .ok (.iadd, 1) := by decide +kernel
theorem dX7_readItem_120 : decode cX7_readItem 120 = .ok (.iastore, 1) := by decide +kernel
theorem dX7_readItem_121 : decode cX7_readItem 121 = .ok (.goto 100, 3) := by decide +kernel
theorem dX7_readItem_124 : decode cX7_readItem 124 = .ok (.iload_n 1, 1) := by decide +kernel
theorem dX7_readItem_125 : decode cX7_readItem 125 = .ok (.iconst 1, 1) := by decide +kernel
theorem dX7_readItem_126 : decode cX7_readItem 126 = .ok (.if_icmp .ne 79, 3) := by decide +kernel
theorem dX7_readItem_129 : decode cX7_readItem 129 = .ok (.bipush 8, 2) := by decide +kernel
theorem dX7_readItem_131 : decode cX7_readItem 131 = .ok (.aload_n 0, 1) := by decide +kernel
theorem dX7_readItem_132 : decode cX7_readItem 132 = .ok (.getfield 20, 3) := by decide +kernel
theorem dX7_readItem_135 : decode cX7_readItem 135 = .ok (.iconst 1, 1) := by decide +kernel
theorem dX7_readItem_136 : decode cX7_readItem 136 = .ok (.iaload, 1) := by decide +kernel
theorem dX7_readItem_137 : decode cX7_readItem 137 = .ok (.iadd, 1) := by decide +kernel
theorem dX7_readItem_138 : decode cX7_readItem 138 = .ok (.istore_n 2, 1) := by decide +kernel
theorem dX7_readItem_139 : decode cX7_readItem 139 = .ok (.iconst 0, 1) := by decide +kernel
theorem dX7_readItem_140 : decode cX7_readItem 140 = .ok (.istore_n 3, 1) := by decide +kernel
theorem dX7_readItem_141 : decode cX7_readItem 141 = .ok (.iload_n 3, 1) := by decide +kernel
theorem dX7_readItem_142 : decode cX7_readItem 142 = .ok (.iconst 5, 1) := by decide +kernel
theorem dX7_readItem_143 : decode cX7_readItem 143 = .ok (.if_icmp .ge 25, 3) := by decide +kernel
theorem dX7_readItem_146 : decode cX7_readItem 146 = .ok (.aload_n 0, 1) := by decide +kernel
theorem dX7_readItem_147 : decode cX7_readItem 147 = .ok (.getfield 23, 3) := by decide +kernel
theorem dX7_readItem_150 : decode cX7_readItem 150 = .ok (.iconst 5, 1) := by decide +kernel
theorem dX7_readItem_151 : decode cX7_readItem 151 = .ok (.iload_n 2, 1) := by decide +kernel
theorem dX7_readItem_152 : decode cX7_readItem 152 = .ok (.imul, 1) := by decide +kernel
theorem dX7_readItem_153 : decode cX7_readItem 153 = .ok (.iload_n 3, 1) := by decide +kernel
theorem dX7_readItem_154 : decode cX7_readItem 154 = .ok (.iadd, 1) := by decide +kernel
theorem dX7_readItem_155 : decode cX7_readItem 155 = .ok (.aload_n 0, 1) := by decide +kernel
theorem dX7_readItem_156 : decode cX7_readItem 156 = .ok (.bipush 9, 2) := by decide +kernel
theorem dX7_readItem_158 : decode cX7_readItem 158 = .ok (.invokevirtual 105, 3) := by decide +kernel
theorem dX7_readItem_161 : decode cX7_readItem 161 = .ok (.iastore, 1) := by decide +kernel
theorem dX7_readItem_162 : decode cX7_readItem 162 = .ok (.iinc 3 1, 3) := by decide +kernel
theorem dX7_readItem_165 : decode cX7_readItem 165 = .ok (.goto (-24), 3) := by decide +kernel
theorem dX7_readItem_168 : decode cX7_readItem 168 = .ok (.aload_n 0, 1) := by decide +kernel
theorem dX7_readItem_169 : decode cX7_readItem 169 = .ok (.getfield 26, 3) := by decide +kernel
theorem dX7_readItem_172 : decode cX7_readItem 172 = .ok (.iload_n 2, 1) := by decide +kernel
theorem dX7_readItem_173 : decode cX7_readItem 173 = .ok (.aload_n 0, 1) := by decide +kernel
end
section
theorem dX7_readItem_174 : decode cX7_readItem 174 = .ok (.bipush 7, 2) := by decide +kernel
theorem dX7_readItem_176 : decode cX7_readItem 176 = .ok (.invokevirtual 105, 3) := by decide +kernel
theorem dX7_readItem_179 : decode cX7_readItem 179 = .ok (.iastore, 1) := by decide +kernel
theorem dX7_readItem_180 : decode cX7_readItem 180 = .ok (.aload_n 0, 1) := by decide +kernel
theorem dX7_readItem_181 : decode cX7_readItem 181 = .ok (.getfield 29, 3) := by decide +kernel
theorem dX7_readItem_184 : decode cX7_readItem 184 = .ok (.iload_n 2, 1) := by decide +kernel
theorem dX7_readItem_185 : decode cX7_readItem 185 = .ok (.aload_n 0, 1) := by decide +kernel
theorem dX7_readItem_186 : decode cX7_readItem 186 = .ok (.bipush 7, 2) := by decide +kernel
theorem dX7_readItem_188 : decode cX7_readItem 188 = .ok (.invokevirtual 105, 3) := by decide +kernel
theorem dX7_readItem_191 : decode cX7_readItem 191 = .ok (.iastore, 1) := by decide +kernel
theorem dX7_readItem_192 : decode cX7_readItem 192 = .ok (.aload_n 0, 1) := by decide +kernel
theorem dX7_readItem_193 : decode cX7_readItem 193 = .ok (.getfield 20, 3) := by decide +kernel
theorem dX7_readItem_196 : decode cX7_readItem 196 = .ok (.iconst 1, 1) := by decide +kernel
theorem dX7_readItem_197 : decode cX7_readItem 197 = .ok (.dup2, 1) := by decide +kernel
theorem dX7_readItem_198 : decode cX7_readItem 198 = .ok (.iaload, 1) := by decide +kernel
theorem dX7_readItem_199 : decode cX7_readItem 199 = .ok (.iconst 1, 1) := by decide +kernel
theorem dX7_readItem_200 : decode cX7_readItem 200 = .ok (.iadd, 1) := by decide +kernel
theorem dX7_readItem_201 : decode cX7_readItem 201 = .ok (.iastore, 1) := by decide +kernel
theorem dX7_readItem_202 : decode cX7_readItem 202 = .ok (.goto 19, 3) := by decide +kernel
theorem dX7_readItem_205 : decode cX7_readItem 205 = .ok (.aload_n 0, 1) := by decide +kernel
theorem dX7_readItem_206 : decode cX7_readItem 206 = .ok (.getfield 32, 3) := by decide +kernel
theorem dX7_readItem_209 : decode cX7_readItem 209 = .ok (.iconst 1, 1) := by decide +kernel
theorem dX7_readItem_210 : decode cX7_readItem 210 = .ok (.aload_n 0, 1) := by decide +kernel
theorem dX7_readItem_211 : decode cX7_readItem 211 = .ok (.iconst 5, 1) := by decide +kernel
theorem dX7_readItem_212 : decode cX7_readItem 212 = .ok (.invokevirtual 105, 3) := by decide +kernel
theorem dX7_readItem_215 : decode cX7_readItem 215 = .ok (.iastore, 1) := by decide +kernel
theorem dX7_readItem_216 : decode cX7_readItem 216 = .ok (.aload_n 0, 1) := by decide +kernel
theorem dX7_readItem_217 : decode cX7_readItem 217 = .ok (.iconst 1, 1) := by decide +kernel
theorem dX7_readItem_218 : decode cX7_readItem 218 = .ok (.putfield 101, 3) := by decide +kernel
theorem dX7_readItem_221 : decode cX7_readItem 221 = .ok (.aload_n 0, 1) := by decide +kernel
theorem dX7_readItem_222 : decode cX7_readItem 222 = .ok (.aload_n 0, 1) := by decide +kernel
theorem dX7_readItem_223 : decode cX7_readItem 223 = .ok (.getfield 84, 3) := by decide +kernel
theorem dX7_readItem_226 : decode cX7_readItem 226 = .ok (.iconst 5, 1) := by decide +kernel
theorem dX7_readItem_227 : decode cX7_readItem 227 = .ok (.if_icmp .ne 7, 3) := by decide +kernel
theorem dX7_readItem_230 : decode cX7_readItem 230 = .ok (.iconst 1, 1) := by decide +kernel
theorem dX7_readItem_231 : decode cX7_readItem 231 = .ok (.goto 4, 3) := by decide +kernel
theorem dX7_readItem_234 : decode cX7_readItem 234 = .ok (.iconst 0, 1) := by decide +kernel
theorem dX7_readItem_235 : decode cX7_readItem 235 = .ok (.invokevirtual 97, 3) := by decide +kernel
theorem dX7_readItem_238 : decode cX7_readItem 238 = .ok (.pop, 1) := by decide +kernel
theorem dX7_readItem_239 : decode cX7_readItem 239 = .ok (.return_, 1) := by decide +kernel
theorem dX7_valley_0 : decode cX7_valley 0 = .ok (.aload_n 0, 1) := by decide +kernel
theorem dX7_valley_1 : decode cX7_valley 1 = .ok (.iconst 0, 1) := by decide +kernel
theorem dX7_valley_2 : decode cX7_valley 2 = .ok (.putfield 71, 3) := by decide +kernel
theorem dX7_valley_5 : decode cX7_valley 5 = .ok (.aload_n 0, 1) := by decide +kernel
theorem dX7_valley_6 : decode cX7_valley 6 = .ok (.bipush (-9), 2) := by decide +kernel
theorem dX7_valley_8 : decode cX7_valley 8 = .ok (.putfield 91, 3) := by decide +kernel
theorem dX7_valley_11 : decode cX7_valley 11 = .ok (.aload_n 0, 1) := by decide +kernel
theorem dX7_valley_12 : decode cX7_valley 12 = .ok (.getfield 13, 3) := by decide +kernel
theorem dX7_valley_15 : decode cX7_valley 15 = .ok (.iconst 1, 1) := by decide +kernel
theorem dX7_valley_16 : decode cX7_valley 16 = .ok (.iconst 0, 1) := by decide +kernel
theorem dX7_valley_17 : decode cX7_valley 17 = .ok (.iastore, 1) := by decide +kernel
theorem dX7_valley_18 : decode cX7_valley 18 = .ok (.aload_n 0, 1) := by decide +kernel
theorem dX7_valley_19 : decode cX7_valley 19 = .ok (.getfield 20, 3) := by decide +kernel
theorem dX7_valley_22 : decode cX7_valley 22 = .ok (.iconst 1, 1) := by decide +kernel
theorem dX7_valley_23 : decode cX7_valley 23 = .ok (.iconst 0, 1) := by decide +kernel
theorem dX7_valley_24 : decode cX7_valley 24 = .ok (.iastore, 1) := by decide +kernel
theorem dX7_valley_25 : decode cX7_valley 25 = .ok (.aload_n 0, 1) := by decide +kernel
theorem dX7_valley_26 : decode cX7_valley 26 = .ok (.getfield 32, 3) := by decide +kernel
theorem dX7_valley_29 : decode cX7_valley 29 = .ok (.iconst 1, 1) := by decide +kernel
theorem dX7_valley_30 : decode cX7_valley 30 = .ok (.iconst 0, 1) := by decide +kernel
theorem dX7_valley_31 : decode cX7_valley 31 = .ok (.iastore, 1) := by decide +kernel
theorem dX7_valley_32 : decode cX7_valley 32 = .ok (.aload_n 0, 1) := by decide +kernel
theorem dX7_valley_33 : decode cX7_valley 33 = .ok (.iconst 0, 1) := by decide +kernel
theorem dX7_valley_34 : decode cX7_valley 34 = .ok (.putfield 101, 3) := by decide +kernel
theorem dX7_valley_37 : decode cX7_valley 37 = .ok (.iconst 0, 1) := by decide +kernel
theorem dX7_valley_38 : decode cX7_valley 38 = .ok (.istore_n 1, 1) := by decide +kernel
theorem dX7_valley_39 : decode cX7_valley 39 = .ok (.aload_n 0, 1) := by decide +kernel
theorem dX7_valley_40 : decode cX7_valley 40 = .ok (.invokevirtual 94, 3) := by decide +kernel
theorem dX7_valley_43 : decode cX7_valley 43 = .ok (.aload_n 0, 1) := by decide +kernel
theorem dX7_valley_44 : decode cX7_valley 44 = .ok (.getfield 91, 3) := by decide +kernel
theorem dX7_valley_47 : decode cX7_valley 47 = .ok (.bipush (-9), 2) := by decide +kernel
theorem dX7_valley_49 : decode cX7_valley 49 = .ok (.if_icmp .ne 21, 3) := by decide +kernel
theorem dX7_valley_52 : decode cX7_valley 52 = .ok (.aload_n 0, 1) := by decide +kernel
theorem dX7_valley_53 : decode cX7_valley 53 = .ok (.getfield 84, 3) := by decide +kernel
theorem dX7_valley_56 : decode cX7_valley 56 = .ok (.iconst 3, 1) := by decide +kernel
theorem dX7_valley_57 : decode cX7_valley 57 = .ok (.if_icmp .eq 13, 3) := by decide +kernel
theorem dX7_valley_60 : decode cX7_valley 60 = .ok (.aload_n 0, 1) := by decide +kernel
theorem dX7_valley_61 : decode cX7_valley 61 = .ok (.invokevirtual 108, 3) := by decide +kernel
theorem dX7_valley_64 : decode cX7_valley 64 = .ok (.iinc 1 1, 3) := by decide +kernel
theorem dX7_valley_67 : decode cX7_valley 67 = .ok (.goto (-24), 3) := by decide +kernel
theorem dX7_valley_70 : decode cX7_valley 70 = .ok (.aload_n 0, 1) := by decide +kernel
theorem dX7_valley_71 : decode cX7_valley 71 = .ok (.getfield 91, 3) := by decide +kernel
theorem dX7_valley_74 : decode cX7_valley 74 = .ok (.bipush (-9), 2) := by decide +kernel
theorem dX7_valley_76 : decode cX7_valley 76 = .ok (.if_icmp .eq 11, 3) := by decide +kernel
theorem dX7_valley_79 : decode cX7_valley 79 = .ok (.bipush (-10), 2) := by decide +kernel
theorem dX7_valley_81 : decode cX7_valley 81 = .ok (.aload_n 0, 1) := by decide +kernel
theorem dX7_valley_82 : decode cX7_valley 82 = .ok (.getfield 91, 3) := by decide +kernel
theorem dX7_valley_85 : decode cX7_valley 85 = .ok (.isub, 1) := by decide +kernel
theorem dX7_valley_86 : decode cX7_valley 86 = .ok (.ireturn, 1) := by decide +kernel
theorem dX7_valley_87 : decode cX7_valley 87 = .ok (.aload_n 0, 1) := by decide +kernel
theorem dX7_valley_88 : decode cX7_valley 88 = .ok (.getfield 13, 3) := by decide +kernel
theorem dX7_valley_91 : decode cX7_valley 91 = .ok (.iconst 0, 1) := by decide +kernel
theorem dX7_valley_92 : decode cX7_valley 92 = .ok (.aload_n 0, 1) := by decide +kernel
theorem dX7_valley_93 : decode cX7_valley 93 = .ok (.getfield 13, 3) := by decide +kernel
theorem dX7_valley_96 : decode cX7_valley 96 = .ok (.iconst 1, 1) := by decide +kernel
theorem dX7_valley_97 : decode cX7_valley 97 = .ok (.iaload, 1) := by decide +kernel
theorem dX7_valley_98 : decode cX7_valley 98 = .ok (.iastore, 1) := by decide +kernel
theorem dX7_valley_99 : decode cX7_valley 99 = .ok (.aload_n 0, 1) := by decide +kernel
theorem dX7_valley_100 : decode cX7_valley 100 = .ok (.getfield 20, 3) := by decide +kernel
theorem dX7_valley_103 : decode cX7_valley 103 = .ok (.iconst 0, 1) := by decide +kernel
theorem dX7_valley_104 : decode cX7_valley 104 = .ok (.aload_n 0, 1) := by decide +kernel
theorem dX7_valley_105 : decode cX7_valley 105 = .ok (.getfield 20, 3) := by decide +kernel
theorem dX7_valley_108 : decode cX7_valley 108 = .ok (.iconst 1, 1) := by decide +kernel
theorem dX7_valley_109 : decode cX7_valley 109 = .ok (.iaload, 1) := by decide +kernel
theorem dX7_valley_110 : decode cX7_valley 110 = .ok (.iastore, 1) := by decide +kernel
theorem dX7_valley_111 : decode cX7_valley 111 = .ok (.iconst 0, 1) := by decide +kernel
theorem dX7_valley_112 : decode cX7_valley 112 = .ok (.istore_n 2, 1) := by decide +kernel
theorem dX7_valley_113 : decode cX7_valley 113 = .ok (.iload_n 2, 1) := by decide +kernel
theorem dX7_valley_114 : decode cX7_valley 114 = .ok (.bipush 30, 2) := by decide +kernel
theorem dX7_valley_116 : decode cX7_valley 116 = .ok (.if_icmp .ge 24, 3) := by decide +kernel
theorem dX7_valley_119 : decode cX7_valley 119 = .ok (.aload_n 0, 1) := by decide +kernel
theorem dX7_valley_120 : decode cX7_valley 120 = .ok (.getfield 35, 3) := by decide +kernel
theorem dX7_valley_123 : decode cX7_valley 123 = .ok (.iload_n 2, 1) := by decide +kernel
theorem dX7_valley_124 : decode cX7_valley 124 = .ok (.aload_n 0, 1) := by decide +kernel
theorem dX7_valley_125 : decode cX7_valley 125 = .ok (.getfield 17, 3) := by decide +kernel
theorem dX7_valley_128 : decode cX7_valley 128 = .ok (.bipush 30, 2) := by decide +kernel
theorem dX7_valley_130 : decode cX7_valley 130 = .ok (.iload_n 2, 1) := by decide +kernel
theorem dX7_valley_131 : decode cX7_valley 131 = .ok (.iadd, 1) := by decide +kernel
theorem dX7_valley_132 : decode cX7_valley 132 = .ok (.iaload, 1) := by decide +kernel
theorem dX7_valley_133 : decode cX7_valley 133 = .ok (.iastore, 1) := by decide +kernel
theorem dX7_valley_134 : decode cX7_valley 134 = .ok (.iinc 2 1, 3) := by decide +kernel
theorem dX7_valley_137 : decode cX7_valley 137 = .ok (.goto (-24), 3) := by decide +kernel
theorem dX7_valley_140 : decode cX7_valley 140 = .ok (.iconst 0, 1) := by decide +kernel
theorem dX7_valley_141 : decode cX7_valley 141 = .ok (.istore_n 2, 1) := by decide +kernel
theorem dX7_valley_142 : decode cX7_valley 142 = .ok (.iload_n 2, 1) := by decide +kernel
theorem dX7_valley_143 : decode cX7_valley 143 = .ok (.bipush 40, 2) := by decide +kernel
theorem dX7_valley_145 : decode cX7_valley 145 = .ok (.if_icmp .ge 24, 3) := by decide +kernel
theorem dX7_valley_148 : decode cX7_valley 148 = .ok (.aload_n 0, 1) := by decide +kernel
theorem dX7_valley_149 : decode cX7_valley 149 = .ok (.getfield 23, 3) := by decide +kernel
theorem dX7_valley_152 : decode cX7_valley 152 = .ok (.iload_n 2, 1) := by decide +kernel
theorem dX7_valley_153 : decode cX7_valley 153 = .ok (.aload_n 0, 1) := by decide +kernel
theorem dX7_valley_154 : decode cX7_valley 154 = .ok (.getfield 23, 3) := by decide +kernel
theorem dX7_valley_157 : decode cX7_valley 157 = .ok (.bipush 40, 2) := by decide +kernel
theorem dX7_valley_159 : decode cX7_valley 159 = .ok (.iload_n 2, 1) := by decide +kernel
theorem dX7_valley_160 : decode cX7_valley 160 = .ok (.iadd, 1) := by decide +kernel
theorem dX7_valley_161 : decode cX7_valley 161 = .ok (.iaload, 1) := by decide +kernel
theorem dX7_valley_162 : decode cX7_valley 162 = .ok (.iastore, 1) := by decide +kernel
theorem dX7_valley_163 : decode cX7_valley 163 = .ok (.iinc 2 1, 3) := by decide +kernel
theorem dX7_valley_166 : decode cX7_valley 166 = .ok (.goto (-24), 3) := by decide +kernel
theorem dX7_valley_169 : decode cX7_valley 169 = .ok (.iconst 0, 1) := by decide +kernel
theorem dX7_valley_170 : decode cX7_valley 170 = .ok (.istore_n 2, 1) := by decide +kernel
theorem dX7_valley_171 : decode cX7_valley 171 = .ok (.iload_n 2, 1) := by decide +kernel
theorem dX7_valley_172 : decode cX7_valley 172 = .ok (.bipush 8, 2) := by decide +kernel
theorem dX7_valley_174 : decode cX7_valley 174 = .ok (.if_icmp .ge 39, 3) := by decide +kernel
theorem dX7_valley_177 : decode cX7_valley 177 = .ok (.aload_n 0, 1) := by decide +kernel
theorem dX7_valley_178 : decode cX7_valley 178 = .ok (.getfield 26, 3) := by decide +kernel
theorem dX7_valley_181 : decode cX7_valley 181 = .ok (.iload_n 2, 1) := by decide +kernel
theorem dX7_valley_182 : decode cX7_valley 182 = .ok (.aload_n 0, 1) := by decide +kernel
theorem dX7_valley_183 : decode cX7_valley 183 = .ok (.getfield 26, 3) := by decide +kernel
theorem dX7_valley_186 : decode cX7_valley 186 = .ok (.bipush 8, 2) := by decide +kernel
theorem dX7_valley_188 : decode cX7_valley 188 = .ok (.iload_n 2, 1) := by decide +kernel
theorem dX7_valley_189 : decode cX7_valley 189 = .ok (.iadd, 1) := by decide +kernel
theorem dX7_valley_190 : decode cX7_valley 190 = .ok (.iaload, 1) := by decide +kernel
theorem dX7_valley_191 : decode cX7_valley 191 = .ok (.iastore, 1) := by decide +kernel
theorem dX7_valley_192 : decode cX7_valley 192 = .ok (.aload_n 0, 1) := by decide +kernel
theorem dX7_valley_193 : decode cX7_valley 193 = .ok (.getfield 29, 3) := by decide +kernel
theorem dX7_valley_196 : decode cX7_valley 196 = .ok (.iload_n 2, 1) := by decide +kernel
theorem dX7_valley_197 : decode cX7_valley 197 = .ok (.aload_n 0, 1) := by decide +kernel
theorem dX7_valley_198 : decode cX7_valley 198 = .ok (.getfield 29, 3) := by decide +kernel
theorem dX7_valley_201 : decode cX7_valley 201 = .ok (.bipush 8, 2) := by decide +kernel
theorem dX7_valley_203 : decode cX7_valley 203 = .ok (.iload_n 2, 1) := by decide +kernel
theorem dX7_valley_204 : decode cX7_valley 204 = .ok (.iadd, 1) := by decide +kernel
theorem dX7_valley_205 : decode cX7_valley 205 = .ok (.iaload, 1) := by decide +kernel
theorem dX7_valley_206 : decode cX7_valley 206 = .ok (.iastore, 1) := by decide +kernel
theorem dX7_valley_207 : decode cX7_valley 207 = .ok (.iinc 2 1, 3) := by decide +kernel
theorem dX7_valley_210 : decode cX7_valley 210 = .ok (.goto (-39), 3) := by decide +kernel
theorem dX7_valley_213 : decode cX7_valley 213 = .ok (.aload_n 0, 1) := by decide +kernel
theorem dX7_valley_214 : decode cX7_valley 214 = .ok (.getfield 35, 3) := by decide +kernel
theorem dX7_valley_217 : decode cX7_valley 217 = .ok (.bipush 30, 2) := by decide +kernel
theorem dX7_valley_219 : decode cX7_valley 219 = .ok (.aload_n 0, 1) := by decide +kernel
theorem dX7_valley_220 : decode cX7_valley 220 = .ok (.getfield 32, 3) := by decide +kernel
theorem dX7_valley_223 : decode cX7_valley 223 = .ok (.iconst 1, 1) := by decide +kernel
theorem dX7_valley_224 : decode cX7_valley 224 = .ok (.iaload, 1) := by decide +kernel
theorem dX7_valley_225 : decode cX7_valley 225 = .ok (.iastore, 1) := by decide +kernel
theorem dX7_valley_226 : decode cX7_valley 226 = .ok (.aload_n 0, 1) := by decide +kernel
theorem dX7_valley_227 : decode cX7_valley 227 = .ok (.getfield 35, 3) := by decide +kernel
theorem dX7_valley_230 : decode cX7_valley 230 = .ok (.bipush 32, 2) := by decide +kernel
theorem dX7_valley_232 : decode cX7_valley 232 = .ok (.iconst 0, 1) := by decide +kernel
theorem dX7_valley_233 : decode cX7_valley 233 = .ok (.iastore, 1) := by decide +kernel
theorem dX7_valley_234 : decode cX7_valley 234 = .ok (.aload_n 0, 1) := by decide +kernel
theorem dX7_valley_235 : decode cX7_valley 235 = .ok (.getfield 38, 3) := by decide +kernel
theorem dX7_valley_238 : decode cX7_valley 238 = .ok (.iconst 0, 1) := by decide +kernel
theorem dX7_valley_239 : decode cX7_valley 239 = .ok (.iconst 0, 1) := by decide +kernel
theorem dX7_valley_240 : decode cX7_valley 240 = .ok (.bastore, 1) := by decide +kernel
theorem dX7_valley_241 : decode cX7_valley 241 = .ok (.aload_n 0, 1) := by decide +kernel
theorem dX7_valley_242 : decode cX7_valley 242 = .ok (.getfield 38, 3) := by decide +kernel
theorem dX7_valley_245 : decode cX7_valley 245 = .ok (.iconst 1, 1) := by decide +kernel
theorem dX7_valley_246 : decode cX7_valley 246 = .ok (.iconst 0, 1) := by decide +kernel
theorem dX7_valley_247 : decode cX7_valley 247 = .ok (.bastore, 1) := by decide +kernel
theorem dX7_valley_248 : decode cX7_valley 248 = .ok (.aload_n 0, 1) := by decide +kernel
theorem dX7_valley_249 : decode cX7_valley 249 = .ok (.iconst 0, 1) := by decide +kernel
theorem dX7_valley_250 : decode cX7_valley 250 = .ok (.putfield 65, 3) := by decide +kernel
theorem dX7_valley_253 : decode cX7_valley 253 = .ok (.iload_n 1, 1) := by decide +kernel
theorem dX7_valley_254 : decode cX7_valley 254 = .ok (.ireturn, 1) := by decide +kernel
theorem dX7_isHouse_0 : decode cX7_isHouse 0 = .ok (.iload_n 1, 1) := by decide +kernel
theorem dX7_isHouse_1 : decode cX7_isHouse 1 = .ok (.iconst 0, 1) := by decide +kernel
theorem dX7_isHouse_2 : decode cX7_isHouse 2 = .ok (.aload_n 0, 1) := by decide +kernel
theorem dX7_isHouse_3 : decode cX7_isHouse 3 = .ok (.getfield 13, 3) := by decide +kernel
theorem dX7_isHouse_6 : decode cX7_isHouse 6 = .ok (.iconst 0, 1) := by decide +kernel
theorem dX7_isHouse_7 : decode cX7_isHouse 7 = .ok (.iaload, 1) := by decide +kernel
theorem dX7_isHouse_8 : decode cX7_isHouse 8 = .ok (.iconst 1, 1) := by decide +kernel
theorem dX7_isHouse_9 : decode cX7_isHouse 9 = .ok (.isub, 1) := by decide +kernel
theorem dX7_isHouse_10 : decode cX7_isHouse 10 = .ok (.invokestatic 61, 3) := by decide +kernel
theorem dX7_isHouse_13 : decode cX7_isHouse 13 = .ok (.ireturn, 1) := by decide +kernel
theorem dX7_isDish_0 : decode cX7_isDish 0 = .ok (.iload_n 1, 1) := by decide +kernel
theorem dX7_isDish_1 : decode cX7_isDish 1 = .ok (.iconst 0, 1) := by decide +kernel
theorem dX7_isDish_2 : decode cX7_isDish 2 = .ok (.aload_n 0, 1) := by decide +kernel
theorem dX7_isDish_3 : decode cX7_isDish 3 = .ok (.getfield 20, 3) := by decide +kernel
theorem dX7_isDish_6 : decode cX7_isDish 6 = .ok (.iconst 0, 1) := by decide +kernel
theorem dX7_isDish_7 : decode cX7_isDish 7 = .ok (.iaload, 1) := by decide +kernel
theorem dX7_isDish_8 : decode cX7_isDish 8 = .ok (.iconst 1, 1) := by decide +kernel
theorem dX7_isDish_9 : decode cX7_isDish 9 = .ok (.isub, 1) := by decide +kernel
theorem dX7_isDish_10 : decode cX7_isDish 10 = .ok (.invokestatic 61, 3) := by decide +kernel
theorem dX7_isDish_13 : decode cX7_isDish 13 = .ok (.ireturn, 1) := by decide +kernel
theorem dX7_isSmoke_0 : decode cX7_isSmoke 0 = .ok (.iload_n 0, 1) := by decide +kernel
theorem dX7_isSmoke_1 : decode cX7_isSmoke 1 = .ok (.iconst 0, 1) := by decide +kernel
theorem dX7_isSmoke_2 : decode cX7_isSmoke 2 = .ok (.bipush 7, 2) := by decide +kernel
theorem dX7_isSmoke_4 : decode cX7_isSmoke 4 = .ok (.invokestatic 61, 3) := by decide +kernel
theorem dX7_isSmoke_7 : decode cX7_isSmoke 7 = .ok (.ireturn, 1) := by decide +kernel
theorem dX7_unitsOf_0 : decode cX7_unitsOf 0 = .ok (.iconst 0, 1) := by decide +kernel
theorem dX7_unitsOf_1 : decode cX7_unitsOf 1 = .ok (.istore_n 2, 1) := by decide +kernel
theorem dX7_unitsOf_2 : decode cX7_unitsOf 2 = .ok (.iconst 0, 1) := by decide +kernel
theorem dX7_unitsOf_3 : decode cX7_unitsOf 3 = .ok (.istore_n 3, 1) := by decide +kernel
theorem dX7_unitsOf_4 : decode cX7_unitsOf 4 = .ok (.iload_n 3, 1) := by decide +kernel
theorem dX7_unitsOf_5 : decode cX7_unitsOf 5 = .ok (.iconst 5, 1) := by decide +kernel
theorem dX7_unitsOf_6 : decode cX7_unitsOf 6 = .ok (.if_icmp .ge 22, 3) := by decide +kernel
theorem dX7_unitsOf_9 : decode cX7_unitsOf 9 = .ok (.iload_n 2, 1) := by decide +kernel
theorem dX7_unitsOf_10 : decode cX7_unitsOf 10 = .ok (.aload_n 0, 1) := by decide +kernel
theorem dX7_unitsOf_11 : decode cX7_unitsOf 11 = .ok (.getfield 23, 3) := by decide +kernel
theorem dX7_unitsOf_14 : decode cX7_unitsOf 14 = .ok (.iconst 5, 1) := by decide +kernel
theorem dX7_unitsOf_15 : decode cX7_unitsOf 15 = .ok (.iload_n 1, 1) := by decide +kernel
theorem dX7_unitsOf_16 : decode cX7_unitsOf 16 = .ok (.imul, 1) := by decide +kernel
theorem dX7_unitsOf_17 : decode cX7_unitsOf 17 = .ok (.iload_n 3, 1) := by decide +kernel
theorem dX7_unitsOf_18 : decode cX7_unitsOf 18 = .ok (.iadd, 1) := by decide +kernel
theorem dX7_unitsOf_19 : decode cX7_unitsOf 19 = .ok (.iaload, 1) := by decide +kernel
theorem dX7_unitsOf_20 : decode cX7_unitsOf 20 = .ok (.iadd, 1) := by decide +kernel
theorem dX7_unitsOf_21 : decode cX7_unitsOf 21 = .ok (.istore_n 2, 1) := by decide +kernel
theorem dX7_unitsOf_22 : decode cX7_unitsOf 22 = .ok (.iinc 3 1, 3) := by decide +kernel
theorem dX7_unitsOf_25 : decode cX7_unitsOf 25 = .ok (.goto (-21), 3) := by decide +kernel
theorem dX7_unitsOf_28 : decode cX7_unitsOf 28 = .ok (.iload_n 2, 1) := by decide +kernel
theorem dX7_unitsOf_29 : decode cX7_unitsOf 29 = .ok (.ireturn, 1) := by decide +kernel
theorem dX7_storeOf_0 : decode cX7_storeOf 0 = .ok (.iconst 0, 1) := by decide +kernel
theorem dX7_storeOf_1 : decode cX7_storeOf 1 = .ok (.istore_n 2, 1) := by decide +kernel
theorem dX7_storeOf_2 : decode cX7_storeOf 2 = .ok (.iconst 0, 1) := by decide +kernel
theorem dX7_storeOf_3 : decode cX7_storeOf 3 = .ok (.istore_n 3, 1) := by decide +kernel
theorem dX7_storeOf_4 : decode cX7_storeOf 4 = .ok (.iload_n 3, 1) := by decide +kernel
theorem dX7_storeOf_5 : decode cX7_storeOf 5 = .ok (.iconst 5, 1) := by decide +kernel
theorem dX7_storeOf_6 : decode cX7_storeOf 6 = .ok (.if_icmp .ge 22, 3) := by decide +kernel
theorem dX7_storeOf_9 : decode cX7_storeOf 9 = .ok (.iload_n 2, 1) := by decide +kernel
theorem dX7_storeOf_10 : decode cX7_storeOf 10 = .ok (.aload_n 0, 1) := by decide +kernel
theorem dX7_storeOf_11 : decode cX7_storeOf 11 = .ok (.getfield 35, 3) := by decide +kernel
theorem dX7_storeOf_14 : decode cX7_storeOf 14 = .ok (.iconst 5, 1) := by decide +kernel
theorem dX7_storeOf_15 : decode cX7_storeOf 15 = .ok (.iload_n 1, 1) := by decide +kernel
theorem dX7_storeOf_16 : decode cX7_storeOf 16 = .ok (.imul, 1) := by decide +kernel
theorem dX7_storeOf_17 : decode cX7_storeOf 17 = .ok (.iload_n 3, 1) := by decide +kernel
theorem dX7_storeOf_18 : decode cX7_storeOf 18 = .ok (.iadd, 1) := by decide +kernel
theorem dX7_storeOf_19 : decode cX7_storeOf 19 = .ok (.iaload, 1) := by decide +kernel
theorem dX7_storeOf_20 : decode cX7_storeOf 20 = .ok (.iadd, 1) := by decide +kernel
theorem dX7_storeOf_21 : decode cX7_storeOf 21 = .ok (.istore_n 2, 1) := by decide +kernel
theorem dX7_storeOf_22 : decode cX7_storeOf 22 = .ok (.iinc 3 1, 3) := by decide +kernel
theorem dX7_storeOf_25 : decode cX7_storeOf 25 = .ok (.goto (-21), 3) := by decide +kernel
theorem dX7_storeOf_28 : decode cX7_storeOf 28 = .ok (.iload_n 2, 1) := by decide +kernel
theorem dX7_storeOf_29 : decode cX7_storeOf 29 = .ok (.ireturn, 1) := by decide +kernel
theorem dX7_house_0 : decode cX7_house 0 = .ok (.aload_n 0, 1) := by decide +kernel
theorem dX7_house_1 : decode cX7_house 1 = .ok (.iload_n 1, 1) := by decide +kernel
theorem dX7_house_2 : decode cX7_house 2 = .ok (.invokevirtual 111, 3) := by decide +kernel
theorem dX7_house_5 : decode cX7_house 5 = .ok (.ifCond .eq 12, 3) := by decide +kernel
theorem dX7_house_8 : decode cX7_house 8 = .ok (.iload_n 2, 1) := by decide +kernel
theorem dX7_house_9 : decode cX7_house 9 = .ok (.iconst 0, 1) := by decide +kernel
theorem dX7_house_10 : decode cX7_house 10 = .ok (.iconst 5, 1) := by decide +kernel
theorem dX7_house_11 : decode cX7_house 11 = .ok (.invokestatic 61, 3) := by decide +kernel
theorem dX7_house_14 : decode cX7_house 14 = .ok (.ifCond .ne 5, 3) := by decide +kernel
theorem dX7_house_17 : decode cX7_house 17 = .ok (.iconst (-1), 1) := by decide +kernel
theorem dX7_house_18 : decode cX7_house 18 = .ok (.ireturn, 1) := by decide +kernel
theorem dX7_house_19 : decode cX7_house 19 = .ok (.iload_n 2, 1) := by decide +kernel
theorem dX7_house_20 : decode cX7_house 20 = .ok (.iconst 5, 1) := by decide +kernel
theorem dX7_house_21 : decode cX7_house 21 = .ok (.if_icmp .ge 16, 3) := by decide +kernel
theorem dX7_house_24 : decode cX7_house 24 = .ok (.aload_n 0, 1) := by decide +kernel
theorem dX7_house_25 : decode cX7_house 25 = .ok (.getfield 35, 3) := by decide +kernel
theorem dX7_house_28 : decode cX7_house 28 = .ok (.iconst 5, 1) := by decide +kernel
theorem dX7_house_29 : decode cX7_house 29 = .ok (.iload_n 1, 1) := by decide +kernel
theorem dX7_house_30 : decode cX7_house 30 = .ok (.imul, 1) := by decide +kernel
theorem dX7_house_31 : decode cX7_house 31 = .ok (.iload_n 2, 1) := by decide +kernel
theorem dX7_house_32 : decode cX7_house 32 = .ok (.iadd, 1) := by decide +kernel
theorem dX7_house_33 : decode cX7_house 33 = .ok (.iaload, 1) := by decide +kernel
theorem dX7_house_34 : decode cX7_house 34 = .ok (.goto 8, 3) := by decide +kernel
theorem dX7_house_37 : decode cX7_house 37 = .ok (.aload_n 0, 1) := by decide +kernel
theorem dX7_house_38 : decode cX7_house 38 = .ok (.iload_n 1, 1) := by decide +kernel
theorem dX7_house_39 : decode cX7_house 39 = .ok (.invokevirtual 115, 3) := by decide +kernel
theorem dX7_house_42 : decode cX7_house 42 = .ok (.ireturn, 1) := by decide +kernel
theorem dX7_dish_0 : decode cX7_dish 0 = .ok (.aload_n 0, 1) := by decide +kernel
theorem dX7_dish_1 : decode cX7_dish 1 = .ok (.iload_n 1, 1) := by decide +kernel
theorem dX7_dish_2 : decode cX7_dish 2 = .ok (.invokevirtual 118, 3) := by decide +kernel
theorem dX7_dish_5 : decode cX7_dish 5 = .ok (.ifCond .eq 13, 3) := by decide +kernel
theorem dX7_dish_8 : decode cX7_dish 8 = .ok (.iload_n 2, 1) := by decide +kernel
theorem dX7_dish_9 : decode cX7_dish 9 = .ok (.iconst 0, 1) := by decide +kernel
theorem dX7_dish_10 : decode cX7_dish 10 = .ok (.bipush 7, 2) := by decide +kernel
theorem dX7_dish_12 : decode cX7_dish 12 = .ok (.invokestatic 61, 3) := by decide +kernel
theorem dX7_dish_15 : decode cX7_dish 15 = .ok (.ifCond .ne 5, 3) := by decide +kernel
theorem dX7_dish_18 : decode cX7_dish 18 = .ok (.iconst (-1), 1) := by decide +kernel
theorem dX7_dish_19 : decode cX7_dish 19 = .ok (.ireturn, 1) := by decide +kernel
theorem dX7_dish_20 : decode cX7_dish 20 = .ok (.iload_n 2, 1) := by decide +kernel
theorem dX7_dish_21 : decode cX7_dish 21 = .ok (.iconst 5, 1) := by decide +kernel
theorem dX7_dish_22 : decode cX7_dish 22 = .ok (.if_icmp .ge 16, 3) := by decide +kernel
theorem dX7_dish_25 : decode cX7_dish 25 = .ok (.aload_n 0, 1) := by decide +kernel
theorem dX7_dish_26 : decode cX7_dish 26 = .ok (.getfield 23, 3) := by decide +kernel
theorem dX7_dish_29 : decode cX7_dish 29 = .ok (.iconst 5, 1) := by decide +kernel
theorem dX7_dish_30 : decode cX7_dish 30 = .ok (.iload_n 1, 1) := by decide +kernel
theorem dX7_dish_31 : decode cX7_dish 31 = .ok (.imul, 1) := by decide +kernel
theorem dX7_dish_32 : decode cX7_dish 32 = .ok (.iload_n 2, 1) := by decide +kernel
theorem dX7_dish_33 : decode cX7_dish 33 = .ok (.iadd, 1) := by decide +kernel
theorem dX7_dish_34 : decode cX7_dish 34 = .ok (.iaload, 1) := by decide +kernel
theorem dX7_dish_35 : decode cX7_dish 35 = .ok (.goto 37, 3) := by decide +kernel
theorem dX7_dish_38 : decode cX7_dish 38 = .ok (.iload_n 2, 1) := by decide +kernel
theorem dX7_dish_39 : decode cX7_dish 39 = .ok (.iconst 5, 1) := by decide +kernel
theorem dX7_dish_40 : decode cX7_dish 40 = .ok (.if_icmp .ne 12, 3) := by decide +kernel
theorem dX7_dish_43 : decode cX7_dish 43 = .ok (.aload_n 0, 1) := by decide +kernel
theorem dX7_dish_44 : decode cX7_dish 44 = .ok (.getfield 26, 3) := by decide +kernel
theorem dX7_dish_47 : decode cX7_dish 47 = .ok (.iload_n 1, 1) := by decide +kernel
theorem dX7_dish_48 : decode cX7_dish 48 = .ok (.iaload, 1) := by decide +kernel
theorem dX7_dish_49 : decode cX7_dish 49 = .ok (.goto 23, 3) := by decide +kernel
theorem dX7_dish_52 : decode cX7_dish 52 = .ok (.iload_n 2, 1) := by decide +kernel
theorem dX7_dish_53 : decode cX7_dish 53 = .ok (.bipush 6, 2) := by decide +kernel
theorem dX7_dish_55 : decode cX7_dish 55 = .ok (.if_icmp .ne 12, 3) := by decide +kernel
theorem dX7_dish_58 : decode cX7_dish 58 = .ok (.aload_n 0, 1) := by decide +kernel
theorem dX7_dish_59 : decode cX7_dish 59 = .ok (.getfield 29, 3) := by decide +kernel
theorem dX7_dish_62 : decode cX7_dish 62 = .ok (.iload_n 1, 1) := by decide +kernel
theorem dX7_dish_63 : decode cX7_dish 63 = .ok (.iaload, 1) := by decide +kernel
theorem dX7_dish_64 : decode cX7_dish 64 = .ok (.goto 8, 3) := by decide +kernel
theorem dX7_dish_67 : decode cX7_dish 67 = .ok (.aload_n 0, 1) := by decide +kernel
theorem dX7_dish_68 : decode cX7_dish 68 = .ok (.iload_n 1, 1) := by decide +kernel
theorem dX7_dish_69 : decode cX7_dish 69 = .ok (.invokevirtual 121, 3) := by decide +kernel
theorem dX7_dish_72 : decode cX7_dish 72 = .ok (.ireturn, 1) := by decide +kernel
theorem dX7_canCook_0 : decode cX7_canCook 0 = .ok (.iconst 1, 1) := by decide +kernel
theorem dX7_canCook_1 : decode cX7_canCook 1 = .ok (.istore_n 3, 1) := by decide +kernel
theorem dX7_canCook_2 : decode cX7_canCook 2 = .ok (.iconst 0, 1) := by decide +kernel
theorem dX7_canCook_3 : decode cX7_canCook 3 = .ok (.istore 4, 2) := by decide +kernel
theorem dX7_canCook_5 : decode cX7_canCook 5 = .ok (.iload 4, 2) := by decide +kernel
theorem dX7_canCook_7 : decode cX7_canCook 7 = .ok (.iconst 5, 1) := by decide +kernel
theorem dX7_canCook_8 : decode cX7_canCook 8 = .ok (.if_icmp .ge 44, 3) := by decide +kernel
theorem dX7_canCook_11 : decode cX7_canCook 11 = .ok (.iload_n 3, 1) := by decide +kernel
theorem dX7_canCook_12 : decode cX7_canCook 12 = .ok (.ifCond .eq 32, 3) := by decide +kernel
theorem dX7_canCook_15 : decode cX7_canCook 15 = .ok (.aload_n 0, 1) := by decide +kernel
theorem dX7_canCook_16 : decode cX7_canCook 16 = .ok (.getfield 35, 3) := by decide +kernel
theorem dX7_canCook_19 : decode cX7_canCook 19 = .ok (.iconst 5, 1) := by decide +kernel
theorem dX7_canCook_20 : decode cX7_canCook 20 = .ok (.iload_n 1, 1) := by decide +kernel
theorem dX7_canCook_21 : decode cX7_canCook 21 = .ok (.imul, 1) := by decide +kernel
theorem dX7_canCook_22 : decode cX7_canCook 22 = .ok (.iload 4, 2) := by decide +kernel
theorem dX7_canCook_24 : decode cX7_canCook 24 = .ok (.iadd, 1) := by decide +kernel
theorem dX7_canCook_25 : decode cX7_canCook 25 = .ok (.iaload, 1) := by decide +kernel
theorem dX7_canCook_26 : decode cX7_canCook 26 = .ok (.aload_n 0, 1) := by decide +kernel
theorem dX7_canCook_27 : decode cX7_canCook 27 = .ok (.getfield 23, 3) := by decide +kernel
theorem dX7_canCook_30 : decode cX7_canCook 30 = .ok (.iconst 5, 1) := by decide +kernel
theorem dX7_canCook_31 : decode cX7_canCook 31 = .ok (.iload_n 2, 1) := by decide +kernel
theorem dX7_canCook_32 : decode cX7_canCook 32 = .ok (.imul, 1) := by decide +kernel
theorem dX7_canCook_33 : decode cX7_canCook 33 = .ok (.iload 4, 2) := by decide +kernel
theorem dX7_canCook_35 : decode cX7_canCook 35 = .ok (.iadd, 1) := by decide +kernel
theorem dX7_canCook_36 : decode cX7_canCook 36 = .ok (.iaload, 1) := by decide +kernel
theorem dX7_canCook_37 : decode cX7_canCook 37 = .ok (.if_icmp .lt 7, 3) := by decide +kernel
theorem dX7_canCook_40 : decode cX7_canCook 40 = .ok (.iconst 1, 1) := by decide +kernel
theorem dX7_canCook_41 : decode cX7_canCook 41 = .ok (.goto 4, 3) := by decide +kernel
theorem dX7_canCook_44 : decode cX7_canCook 44 = .ok (.iconst 0, 1) := by decide +kernel
theorem dX7_canCook_45 : decode cX7_canCook 45 = .ok (.istore_n 3, 1) := by decide +kernel
theorem dX7_canCook_46 : decode cX7_canCook 46 = .ok (.iinc 4 1, 3) := by decide +kernel
theorem dX7_canCook_49 : decode cX7_canCook 49 = .ok (.goto (-44), 3) := by decide +kernel
theorem dX7_canCook_52 : decode cX7_canCook 52 = .ok (.iload_n 3, 1) := by decide +kernel
theorem dX7_canCook_53 : decode cX7_canCook 53 = .ok (.ireturn, 1) := by decide +kernel
theorem dX7_cook_0 : decode cX7_cook 0 = .ok (.aload_n 0, 1) := by decide +kernel
theorem dX7_cook_1 : decode cX7_cook 1 = .ok (.iload_n 1, 1) := by decide +kernel
theorem dX7_cook_2 : decode cX7_cook 2 = .ok (.invokevirtual 111, 3) := by decide +kernel
theorem dX7_cook_5 : decode cX7_cook 5 = .ok (.ifCond .eq 11, 3) := by decide +kernel
theorem dX7_cook_8 : decode cX7_cook 8 = .ok (.aload_n 0, 1) := by decide +kernel
theorem dX7_cook_9 : decode cX7_cook 9 = .ok (.iload_n 2, 1) := by decide +kernel
theorem dX7_cook_10 : decode cX7_cook 10 = .ok (.invokevirtual 118, 3) := by decide +kernel
theorem dX7_cook_13 : decode cX7_cook 13 = .ok (.ifCond .ne 5, 3) := by decide +kernel
theorem dX7_cook_16 : decode cX7_cook 16 = .ok (.iconst (-1), 1) := by decide +kernel
theorem dX7_cook_17 : decode cX7_cook 17 = .ok (.ireturn, 1) := by decide +kernel
theorem dX7_cook_18 : decode cX7_cook 18 = .ok (.aload_n 0, 1) := by decide +kernel
theorem dX7_cook_19 : decode cX7_cook 19 = .ok (.iload_n 1, 1) := by decide +kernel
theorem dX7_cook_20 : decode cX7_cook 20 = .ok (.iload_n 2, 1) := by decide +kernel
theorem dX7_cook_21 : decode cX7_cook 21 = .ok (.invokevirtual 124, 3) := by decide +kernel
theorem dX7_cook_24 : decode cX7_cook 24 = .ok (.ifCond .ne 6, 3) := by decide +kernel
theorem dX7_cook_27 : decode cX7_cook 27 = .ok (.bipush (-2), 2) := by decide +kernel
theorem dX7_cook_29 : decode cX7_cook 29 = .ok (.ireturn, 1) := by decide +kernel
theorem dX7_cook_30 : decode cX7_cook 30 = .ok (.aload_n 0, 1) := by decide +kernel
theorem dX7_cook_31 : decode cX7_cook 31 = .ok (.getfield 35, 3) := by decide +kernel
theorem dX7_cook_34 : decode cX7_cook 34 = .ok (.bipush 32, 2) := by decide +kernel
theorem dX7_cook_36 : decode cX7_cook 36 = .ok (.iaload, 1) := by decide +kernel
theorem dX7_cook_37 : decode cX7_cook 37 = .ok (.bipush 20, 2) := by decide +kernel
theorem dX7_cook_39 : decode cX7_cook 39 = .ok (.if_icmp .ne 6, 3) := by decide +kernel
theorem dX7_cook_42 : decode cX7_cook 42 = .ok (.bipush (-3), 2) := by decide +kernel
theorem dX7_cook_44 : decode cX7_cook 44 = .ok (.ireturn, 1) := by decide +kernel
theorem dX7_cook_45 : decode cX7_cook 45 = .ok (.iconst 0, 1) := by decide +kernel
theorem dX7_cook_46 : decode cX7_cook 46 = .ok (.istore_n 3, 1) := by decide +kernel
theorem dX7_cook_47 : decode cX7_cook 47 = .ok (.iload_n 3, 1) := by decide +kernel
theorem dX7_cook_48 : decode cX7_cook 48 = .ok (.iconst 5, 1) := by decide +kernel
theorem dX7_cook_49 : decode cX7_cook 49 = .ok (.if_icmp .ge 32, 3) := by decide +kernel
theorem dX7_cook_52 : decode cX7_cook 52 = .ok (.aload_n 0, 1) := by decide +kernel
theorem dX7_cook_53 : decode cX7_cook 53 = .ok (.getfield 35, 3) := by decide +kernel
theorem dX7_cook_56 : decode cX7_cook 56 = .ok (.iconst 5, 1) := by decide +kernel
theorem dX7_cook_57 : decode cX7_cook 57 = .ok (.iload_n 1, 1) := by decide +kernel
theorem dX7_cook_58 : decode cX7_cook 58 = .ok (.imul, 1) := by decide +kernel
theorem dX7_cook_59 : decode cX7_cook 59 = .ok (.iload_n 3, 1) := by decide +kernel
theorem dX7_cook_60 : decode cX7_cook 60 = .ok (.iadd, 1) := by decide +kernel
theorem dX7_cook_61 : decode cX7_cook 61 = .ok (.dup2, 1) := by decide +kernel
theorem dX7_cook_62 : decode cX7_cook 62 = .ok (.iaload, 1) := by decide +kernel
theorem dX7_cook_63 : decode cX7_cook 63 = .ok (.aload_n 0, 1) := by decide +kernel
theorem dX7_cook_64 : decode cX7_cook 64 = .ok (.getfield 23, 3) := by decide +kernel
theorem dX7_cook_67 : decode cX7_cook 67 = .ok (.iconst 5, 1) := by decide +kernel
theorem dX7_cook_68 : decode cX7_cook 68 = .ok (.iload_n 2, 1) := by decide +kernel
theorem dX7_cook_69 : decode cX7_cook 69 = .ok (.imul, 1) := by decide +kernel
theorem dX7_cook_70 : decode cX7_cook 70 = .ok (.iload_n 3, 1) := by decide +kernel
theorem dX7_cook_71 : decode cX7_cook 71 = .ok (.iadd, 1) := by decide +kernel
theorem dX7_cook_72 : decode cX7_cook 72 = .ok (.iaload, 1) := by decide +kernel
theorem dX7_cook_73 : decode cX7_cook 73 = .ok (.isub, 1) := by decide +kernel
theorem dX7_cook_74 : decode cX7_cook 74 = .ok (.iastore, 1) := by decide +kernel
theorem dX7_cook_75 : decode cX7_cook 75 = .ok (.iinc 3 1, 3) := by decide +kernel
theorem dX7_cook_78 : decode cX7_cook 78 = .ok (.goto (-31), 3) := by decide +kernel
theorem dX7_cook_81 : decode cX7_cook 81 = .ok (.aload_n 0, 1) := by decide +kernel
theorem dX7_cook_82 : decode cX7_cook 82 = .ok (.getfield 35, 3) := by decide +kernel
theorem dX7_cook_85 : decode cX7_cook 85 = .ok (.bipush 33, 2) := by decide +kernel
theorem dX7_cook_87 : decode cX7_cook 87 = .ok (.iconst 2, 1) := by decide +kernel
theorem dX7_cook_88 : decode cX7_cook 88 = .ok (.aload_n 0, 1) := by decide +kernel
theorem dX7_cook_89 : decode cX7_cook 89 = .ok (.getfield 35, 3) := by decide +kernel
theorem dX7_cook_92 : decode cX7_cook 92 = .ok (.bipush 32, 2) := by decide +kernel
theorem dX7_cook_94 : decode cX7_cook 94 = .ok (.iaload, 1) := by decide +kernel
theorem dX7_cook_95 : decode cX7_cook 95 = .ok (.imul, 1) := by decide +kernel
theorem dX7_cook_96 : decode cX7_cook 96 = .ok (.iadd, 1) := by decide +kernel
theorem dX7_cook_97 : decode cX7_cook 97 = .ok (.iload_n 1, 1) := by decide +kernel
theorem dX7_cook_98 : decode cX7_cook 98 = .ok (.iastore, 1) := by decide +kernel
theorem dX7_cook_99 : decode cX7_cook 99 = .ok (.aload_n 0, 1) := by decide +kernel
theorem dX7_cook_100 : decode cX7_cook 100 = .ok (.getfield 35, 3) := by decide +kernel
theorem dX7_cook_103 : decode cX7_cook 103 = .ok (.bipush 33, 2) := by decide +kernel
theorem dX7_cook_105 : decode cX7_cook 105 = .ok (.iconst 2, 1) := by decide +kernel
theorem dX7_cook_106 : decode cX7_cook 106 = .ok (.aload_n 0, 1) := by decide +kernel
theorem dX7_cook_107 : decode cX7_cook 107 = .ok (.getfield 35, 3) := by decide +kernel
theorem dX7_cook_110 : decode cX7_cook 110 = .ok (.bipush 32, 2) := by decide +kernel
theorem dX7_cook_112 : decode cX7_cook 112 = .ok (.iaload, 1) := by decide +kernel
theorem dX7_cook_113 : decode cX7_cook 113 = .ok (.imul, 1) := by decide +kernel
theorem dX7_cook_114 : decode cX7_cook 114 = .ok (.iadd, 1) := by decide +kernel
theorem dX7_cook_115 : decode cX7_cook 115 = .ok (.iconst 1, 1) := by decide +kernel
theorem dX7_cook_116 : decode cX7_cook 116 = .ok (.iadd, 1) := by decide +kernel
theorem dX7_cook_117 : decode cX7_cook 117 = .ok (.iload_n 2, 1) := by decide +kernel
theorem dX7_cook_118 : decode cX7_cook 118 = .ok (.iastore, 1) := by decide +kernel
theorem dX7_cook_119 : decode cX7_cook 119 = .ok (.aload_n 0, 1) := by decide +kernel
theorem dX7_cook_120 : decode cX7_cook 120 = .ok (.getfield 35, 3) := by decide +kernel
theorem dX7_cook_123 : decode cX7_cook 123 = .ok (.bipush 32, 2) := by decide +kernel
theorem dX7_cook_125 : decode cX7_cook 125 = .ok (.dup2, 1) := by decide +kernel
theorem dX7_cook_126 : decode cX7_cook 126 = .ok (.iaload, 1) := by decide +kernel
theorem dX7_cook_127 : decode cX7_cook 127 = .ok (.iconst 1, 1) := by decide +kernel
end
section
theorem dX7_cook_128 : decode cX7_cook 128 = .ok (.iadd, 1) := by decide +kernel
theorem dX7_cook_129 : decode cX7_cook 129 = .ok (.iastore, 1) := by decide +kernel
theorem dX7_cook_130 : decode cX7_cook 130 = .ok (.aload_n 0, 1) := by decide +kernel
theorem dX7_cook_131 : decode cX7_cook 131 = .ok (.getfield 26, 3) := by decide +kernel
theorem dX7_cook_134 : decode cX7_cook 134 = .ok (.iload_n 2, 1) := by decide +kernel
theorem dX7_cook_135 : decode cX7_cook 135 = .ok (.iaload, 1) := by decide +kernel
theorem dX7_cook_136 : decode cX7_cook 136 = .ok (.ireturn, 1) := by decide +kernel
theorem dX7_undo_0 : decode cX7_undo 0 = .ok (.aload_n 0, 1) := by decide +kernel
theorem dX7_undo_1 : decode cX7_undo 1 = .ok (.getfield 35, 3) := by decide +kernel
theorem dX7_undo_4 : decode cX7_undo 4 = .ok (.bipush 32, 2) := by decide +kernel
theorem dX7_undo_6 : decode cX7_undo 6 = .ok (.iaload, 1) := by decide +kernel
theorem dX7_undo_7 : decode cX7_undo 7 = .ok (.ifCond .ne 6, 3) := by decide +kernel
theorem dX7_undo_10 : decode cX7_undo 10 = .ok (.bipush (-2), 2) := by decide +kernel
theorem dX7_undo_12 : decode cX7_undo 12 = .ok (.ireturn, 1) := by decide +kernel
theorem dX7_undo_13 : decode cX7_undo 13 = .ok (.aload_n 0, 1) := by decide +kernel
theorem dX7_undo_14 : decode cX7_undo 14 = .ok (.getfield 35, 3) := by decide +kernel
theorem dX7_undo_17 : decode cX7_undo 17 = .ok (.bipush 32, 2) := by decide +kernel
theorem dX7_undo_19 : decode cX7_undo 19 = .ok (.dup2, 1) := by decide +kernel
theorem dX7_undo_20 : decode cX7_undo 20 = .ok (.iaload, 1) := by decide +kernel
theorem dX7_undo_21 : decode cX7_undo 21 = .ok (.iconst 1, 1) := by decide +kernel
theorem dX7_undo_22 : decode cX7_undo 22 = .ok (.isub, 1) := by decide +kernel
theorem dX7_undo_23 : decode cX7_undo 23 = .ok (.iastore, 1) := by decide +kernel
theorem dX7_undo_24 : decode cX7_undo 24 = .ok (.aload_n 0, 1) := by decide +kernel
theorem dX7_undo_25 : decode cX7_undo 25 = .ok (.getfield 35, 3) := by decide +kernel
theorem dX7_undo_28 : decode cX7_undo 28 = .ok (.bipush 33, 2) := by decide +kernel
theorem dX7_undo_30 : decode cX7_undo 30 = .ok (.iconst 2, 1) := by decide +kernel
theorem dX7_undo_31 : decode cX7_undo 31 = .ok (.aload_n 0, 1) := by decide +kernel
theorem dX7_undo_32 : decode cX7_undo 32 = .ok (.getfield 35, 3) := by decide +kernel
theorem dX7_undo_35 : decode cX7_undo 35 = .ok (.bipush 32, 2) := by decide +kernel
theorem dX7_undo_37 : decode cX7_undo 37 = .ok (.iaload, 1) := by decide +kernel
theorem dX7_undo_38 : decode cX7_undo 38 = .ok (.imul, 1) := by decide +kernel
theorem dX7_undo_39 : decode cX7_undo 39 = .ok (.iadd, 1) := by decide +kernel
theorem dX7_undo_40 : decode cX7_undo 40 = .ok (.iaload, 1) := by decide +kernel
theorem dX7_undo_41 : decode cX7_undo 41 = .ok (.istore_n 1, 1) := by decide +kernel
theorem dX7_undo_42 : decode cX7_undo 42 = .ok (.aload_n 0, 1) := by decide +kernel
theorem dX7_undo_43 : decode cX7_undo 43 = .ok (.getfield 35, 3) := by decide +kernel
theorem dX7_undo_46 : decode cX7_undo 46 = .ok (.bipush 33, 2) := by decide +kernel
theorem dX7_undo_48 : decode cX7_undo 48 = .ok (.iconst 2, 1) := by decide +kernel
theorem dX7_undo_49 : decode cX7_undo 49 = .ok (.aload_n 0, 1) := by decide +kernel
theorem dX7_undo_50 : decode cX7_undo 50 = .ok (.getfield 35, 3) := by decide +kernel
theorem dX7_undo_53 : decode cX7_undo 53 = .ok (.bipush 32, 2) := by decide +kernel
theorem dX7_undo_55 : decode cX7_undo 55 = .ok (.iaload, 1) := by decide +kernel
theorem dX7_undo_56 : decode cX7_undo 56 = .ok (.imul, 1) := by decide +kernel
theorem dX7_undo_57 : decode cX7_undo 57 = .ok (.iadd, 1) := by decide +kernel
theorem dX7_undo_58 : decode cX7_undo 58 = .ok (.iconst 1, 1) := by decide +kernel
theorem dX7_undo_59 : decode cX7_undo 59 = .ok (.iadd, 1) := by decide +kernel
theorem dX7_undo_60 : decode cX7_undo 60 = .ok (.iaload, 1) := by decide +kernel
theorem dX7_undo_61 : decode cX7_undo 61 = .ok (.istore_n 2, 1) := by decide +kernel
theorem dX7_undo_62 : decode cX7_undo 62 = .ok (.iconst 0, 1) := by decide +kernel
theorem dX7_undo_63 : decode cX7_undo 63 = .ok (.istore_n 3, 1) := by decide +kernel
theorem dX7_undo_64 : decode cX7_undo 64 = .ok (.iload_n 3, 1) := by decide +kernel
theorem dX7_undo_65 : decode cX7_undo 65 = .ok (.iconst 5, 1) := by decide +kernel
theorem dX7_undo_66 : decode cX7_undo 66 = .ok (.if_icmp .ge 56, 3) := by decide +kernel
theorem dX7_undo_69 : decode cX7_undo 69 = .ok (.aload_n 0, 1) := by decide +kernel
theorem dX7_undo_70 : decode cX7_undo 70 = .ok (.getfield 35, 3) := by decide +kernel
theorem dX7_undo_73 : decode cX7_undo 73 = .ok (.iconst 5, 1) := by decide +kernel
theorem dX7_undo_74 : decode cX7_undo 74 = .ok (.iload_n 1, 1) := by decide +kernel
theorem dX7_undo_75 : decode cX7_undo 75 = .ok (.imul, 1) := by decide +kernel
theorem dX7_undo_76 : decode cX7_undo 76 = .ok (.iload_n 3, 1) := by decide +kernel
theorem dX7_undo_77 : decode cX7_undo 77 = .ok (.iadd, 1) := by decide +kernel
theorem dX7_undo_78 : decode cX7_undo 78 = .ok (.iaload, 1) := by decide +kernel
theorem dX7_undo_79 : decode cX7_undo 79 = .ok (.aload_n 0, 1) := by decide +kernel
theorem dX7_undo_80 : decode cX7_undo 80 = .ok (.getfield 23, 3) := by decide +kernel
theorem dX7_undo_83 : decode cX7_undo 83 = .ok (.iconst 5, 1) := by decide +kernel
theorem dX7_undo_84 : decode cX7_undo 84 = .ok (.iload_n 2, 1) := by decide +kernel
theorem dX7_undo_85 : decode cX7_undo 85 = .ok (.imul, 1) := by decide +kernel
theorem dX7_undo_86 : decode cX7_undo 86 = .ok (.iload_n 3, 1) := by decide +kernel
theorem dX7_undo_87 : decode cX7_undo 87 = .ok (.iadd, 1) := by decide +kernel
theorem dX7_undo_88 : decode cX7_undo 88 = .ok (.iaload, 1) := by decide +kernel
theorem dX7_undo_89 : decode cX7_undo 89 = .ok (.iadd, 1) := by decide +kernel
theorem dX7_undo_90 : decode cX7_undo 90 = .ok (.istore 4, 2) := by decide +kernel
theorem dX7_undo_92 : decode cX7_undo 92 = .ok (.aload_n 0, 1) := by decide +kernel
theorem dX7_undo_93 : decode cX7_undo 93 = .ok (.getfield 35, 3) := by decide +kernel
theorem dX7_undo_96 : decode cX7_undo 96 = .ok (.iconst 5, 1) := by decide +kernel
theorem dX7_undo_97 : decode cX7_undo 97 = .ok (.iload_n 1, 1) := by decide +kernel
theorem dX7_undo_98 : decode cX7_undo 98 = .ok (.imul, 1) := by decide +kernel
theorem dX7_undo_99 : decode cX7_undo 99 = .ok (.iload_n 3, 1) := by decide +kernel
theorem dX7_undo_100 : decode cX7_undo 100 = .ok (.iadd, 1) := by decide +kernel
theorem dX7_undo_101 : decode cX7_undo 101 = .ok (.iload 4, 2) := by decide +kernel
theorem dX7_undo_103 : decode cX7_undo 103 = .ok (.bipush 9, 2) := by decide +kernel
theorem dX7_undo_105 : decode cX7_undo 105 = .ok (.if_icmp .le 8, 3) := by decide +kernel
theorem dX7_undo_108 : decode cX7_undo 108 = .ok (.bipush 9, 2) := by decide +kernel
theorem dX7_undo_110 : decode cX7_undo 110 = .ok (.goto 5, 3) := by decide +kernel
theorem dX7_undo_113 : decode cX7_undo 113 = .ok (.iload 4, 2) := by decide +kernel
theorem dX7_undo_115 : decode cX7_undo 115 = .ok (.iastore, 1) := by decide +kernel
theorem dX7_undo_116 : decode cX7_undo 116 = .ok (.iinc 3 1, 3) := by decide +kernel
theorem dX7_undo_119 : decode cX7_undo 119 = .ok (.goto (-55), 3) := by decide +kernel
theorem dX7_undo_122 : decode cX7_undo 122 = .ok (.aload_n 0, 1) := by decide +kernel
theorem dX7_undo_123 : decode cX7_undo 123 = .ok (.getfield 35, 3) := by decide +kernel
theorem dX7_undo_126 : decode cX7_undo 126 = .ok (.bipush 32, 2) := by decide +kernel
theorem dX7_undo_128 : decode cX7_undo 128 = .ok (.iaload, 1) := by decide +kernel
theorem dX7_undo_129 : decode cX7_undo 129 = .ok (.ireturn, 1) := by decide +kernel
theorem dX7_gives_0 : decode cX7_gives 0 = .ok (.aload_n 0, 1) := by decide +kernel
theorem dX7_gives_1 : decode cX7_gives 1 = .ok (.iload_n 1, 1) := by decide +kernel
theorem dX7_gives_2 : decode cX7_gives 2 = .ok (.invokevirtual 111, 3) := by decide +kernel
theorem dX7_gives_5 : decode cX7_gives 5 = .ok (.ifCond .eq 36, 3) := by decide +kernel
theorem dX7_gives_8 : decode cX7_gives 8 = .ok (.aload_n 0, 1) := by decide +kernel
theorem dX7_gives_9 : decode cX7_gives 9 = .ok (.iload_n 2, 1) := by decide +kernel
theorem dX7_gives_10 : decode cX7_gives 10 = .ok (.invokevirtual 111, 3) := by decide +kernel
theorem dX7_gives_13 : decode cX7_gives 13 = .ok (.ifCond .eq 28, 3) := by decide +kernel
theorem dX7_gives_16 : decode cX7_gives 16 = .ok (.iload_n 1, 1) := by decide +kernel
theorem dX7_gives_17 : decode cX7_gives 17 = .ok (.iload_n 2, 1) := by decide +kernel
theorem dX7_gives_18 : decode cX7_gives 18 = .ok (.if_icmp .eq 23, 3) := by decide +kernel
theorem dX7_gives_21 : decode cX7_gives 21 = .ok (.iload_n 3, 1) := by decide +kernel
theorem dX7_gives_22 : decode cX7_gives 22 = .ok (.iconst 0, 1) := by decide +kernel
theorem dX7_gives_23 : decode cX7_gives 23 = .ok (.iconst 4, 1) := by decide +kernel
theorem dX7_gives_24 : decode cX7_gives 24 = .ok (.invokestatic 61, 3) := by decide +kernel
theorem dX7_gives_27 : decode cX7_gives 27 = .ok (.ifCond .eq 14, 3) := by decide +kernel
theorem dX7_gives_30 : decode cX7_gives 30 = .ok (.iload 4, 2) := by decide +kernel
theorem dX7_gives_32 : decode cX7_gives 32 = .ok (.iconst 1, 1) := by decide +kernel
theorem dX7_gives_33 : decode cX7_gives 33 = .ok (.bipush 9, 2) := by decide +kernel
theorem dX7_gives_35 : decode cX7_gives 35 = .ok (.invokestatic 61, 3) := by decide +kernel
theorem dX7_gives_38 : decode cX7_gives 38 = .ok (.ifCond .ne 5, 3) := by decide +kernel
theorem dX7_gives_41 : decode cX7_gives 41 = .ok (.iconst (-1), 1) := by decide +kernel
theorem dX7_gives_42 : decode cX7_gives 42 = .ok (.ireturn, 1) := by decide +kernel
theorem dX7_gives_43 : decode cX7_gives 43 = .ok (.aload_n 0, 1) := by decide +kernel
theorem dX7_gives_44 : decode cX7_gives 44 = .ok (.getfield 35, 3) := by decide +kernel
theorem dX7_gives_47 : decode cX7_gives 47 = .ok (.iconst 5, 1) := by decide +kernel
theorem dX7_gives_48 : decode cX7_gives 48 = .ok (.iload_n 1, 1) := by decide +kernel
theorem dX7_gives_49 : decode cX7_gives 49 = .ok (.imul, 1) := by decide +kernel
theorem dX7_gives_50 : decode cX7_gives 50 = .ok (.iload_n 3, 1) := by decide +kernel
theorem dX7_gives_51 : decode cX7_gives 51 = .ok (.iadd, 1) := by decide +kernel
theorem dX7_gives_52 : decode cX7_gives 52 = .ok (.iaload, 1) := by decide +kernel
theorem dX7_gives_53 : decode cX7_gives 53 = .ok (.iload 4, 2) := by decide +kernel
theorem dX7_gives_55 : decode cX7_gives 55 = .ok (.if_icmp .ge 6, 3) := by decide +kernel
theorem dX7_gives_58 : decode cX7_gives 58 = .ok (.bipush (-2), 2) := by decide +kernel
theorem dX7_gives_60 : decode cX7_gives 60 = .ok (.ireturn, 1) := by decide +kernel
theorem dX7_gives_61 : decode cX7_gives 61 = .ok (.aload_n 0, 1) := by decide +kernel
theorem dX7_gives_62 : decode cX7_gives 62 = .ok (.getfield 35, 3) := by decide +kernel
theorem dX7_gives_65 : decode cX7_gives 65 = .ok (.iconst 5, 1) := by decide +kernel
theorem dX7_gives_66 : decode cX7_gives 66 = .ok (.iload_n 2, 1) := by decide +kernel
theorem dX7_gives_67 : decode cX7_gives 67 = .ok (.imul, 1) := by decide +kernel
theorem dX7_gives_68 : decode cX7_gives 68 = .ok (.iload_n 3, 1) := by decide +kernel
theorem dX7_gives_69 : decode cX7_gives 69 = .ok (.iadd, 1) := by decide +kernel
theorem dX7_gives_70 : decode cX7_gives 70 = .ok (.iaload, 1) := by decide +kernel
theorem dX7_gives_71 : decode cX7_gives 71 = .ok (.iload 4, 2) := by decide +kernel
theorem dX7_gives_73 : decode cX7_gives 73 = .ok (.iadd, 1) := by decide +kernel
theorem dX7_gives_74 : decode cX7_gives 74 = .ok (.bipush 9, 2) := by decide +kernel
theorem dX7_gives_76 : decode cX7_gives 76 = .ok (.if_icmp .le 6, 3) := by decide +kernel
theorem dX7_gives_79 : decode cX7_gives 79 = .ok (.bipush (-3), 2) := by decide +kernel
theorem dX7_gives_81 : decode cX7_gives 81 = .ok (.ireturn, 1) := by decide +kernel
theorem dX7_gives_82 : decode cX7_gives 82 = .ok (.aload_n 0, 1) := by decide +kernel
theorem dX7_gives_83 : decode cX7_gives 83 = .ok (.getfield 35, 3) := by decide +kernel
theorem dX7_gives_86 : decode cX7_gives 86 = .ok (.iconst 5, 1) := by decide +kernel
theorem dX7_gives_87 : decode cX7_gives 87 = .ok (.iload_n 1, 1) := by decide +kernel
theorem dX7_gives_88 : decode cX7_gives 88 = .ok (.imul, 1) := by decide +kernel
theorem dX7_gives_89 : decode cX7_gives 89 = .ok (.iload_n 3, 1) := by decide +kernel
theorem dX7_gives_90 : decode cX7_gives 90 = .ok (.iadd, 1) := by decide +kernel
theorem dX7_gives_91 : decode cX7_gives 91 = .ok (.dup2, 1) := by decide +kernel
theorem dX7_gives_92 : decode cX7_gives 92 = .ok (.iaload, 1) := by decide +kernel
theorem dX7_gives_93 : decode cX7_gives 93 = .ok (.iload 4, 2) := by decide +kernel
theorem dX7_gives_95 : decode cX7_gives 95 = .ok (.isub, 1) := by decide +kernel
theorem dX7_gives_96 : decode cX7_gives 96 = .ok (.iastore, 1) := by decide +kernel
theorem dX7_gives_97 : decode cX7_gives 97 = .ok (.aload_n 0, 1) := by decide +kernel
theorem dX7_gives_98 : decode cX7_gives 98 = .ok (.getfield 35, 3) := by decide +kernel
theorem dX7_gives_101 : decode cX7_gives 101 = .ok (.iconst 5, 1) := by decide +kernel
theorem dX7_gives_102 : decode cX7_gives 102 = .ok (.iload_n 2, 1) := by decide +kernel
theorem dX7_gives_103 : decode cX7_gives 103 = .ok (.imul, 1) := by decide +kernel
theorem dX7_gives_104 : decode cX7_gives 104 = .ok (.iload_n 3, 1) := by decide +kernel
theorem dX7_gives_105 : decode cX7_gives 105 = .ok (.iadd, 1) := by decide +kernel
theorem dX7_gives_106 : decode cX7_gives 106 = .ok (.dup2, 1) := by decide +kernel
theorem dX7_gives_107 : decode cX7_gives 107 = .ok (.iaload, 1) := by decide +kernel
theorem dX7_gives_108 : decode cX7_gives 108 = .ok (.iload 4, 2) := by decide +kernel
theorem dX7_gives_110 : decode cX7_gives 110 = .ok (.iadd, 1) := by decide +kernel
theorem dX7_gives_111 : decode cX7_gives 111 = .ok (.iastore, 1) := by decide +kernel
theorem dX7_gives_112 : decode cX7_gives 112 = .ok (.aload_n 0, 1) := by decide +kernel
theorem dX7_gives_113 : decode cX7_gives 113 = .ok (.getfield 35, 3) := by decide +kernel
theorem dX7_gives_116 : decode cX7_gives 116 = .ok (.iconst 5, 1) := by decide +kernel
theorem dX7_gives_117 : decode cX7_gives 117 = .ok (.iload_n 2, 1) := by decide +kernel
theorem dX7_gives_118 : decode cX7_gives 118 = .ok (.imul, 1) := by decide +kernel
theorem dX7_gives_119 : decode cX7_gives 119 = .ok (.iload_n 3, 1) := by decide +kernel
theorem dX7_gives_120 : decode cX7_gives 120 = .ok (.iadd, 1) := by decide +kernel
theorem dX7_gives_121 : decode cX7_gives 121 = .ok (.iaload, 1) := by decide +kernel
theorem dX7_gives_122 : decode cX7_gives 122 = .ok (.ireturn, 1) := by decide +kernel
theorem dX7_burns_0 : decode cX7_burns 0 = .ok (.aload_n 0, 1) := by decide +kernel
theorem dX7_burns_1 : decode cX7_burns 1 = .ok (.iload_n 1, 1) := by decide +kernel
theorem dX7_burns_2 : decode cX7_burns 2 = .ok (.invokevirtual 111, 3) := by decide +kernel
theorem dX7_burns_5 : decode cX7_burns 5 = .ok (.ifCond .ne 5, 3) := by decide +kernel
theorem dX7_burns_8 : decode cX7_burns 8 = .ok (.iconst (-1), 1) := by decide +kernel
theorem dX7_burns_9 : decode cX7_burns 9 = .ok (.ireturn, 1) := by decide +kernel
theorem dX7_burns_10 : decode cX7_burns 10 = .ok (.aload_n 0, 1) := by decide +kernel
theorem dX7_burns_11 : decode cX7_burns 11 = .ok (.iload_n 1, 1) := by decide +kernel
theorem dX7_burns_12 : decode cX7_burns 12 = .ok (.invokevirtual 115, 3) := by decide +kernel
theorem dX7_burns_15 : decode cX7_burns 15 = .ok (.istore_n 2, 1) := by decide +kernel
theorem dX7_burns_16 : decode cX7_burns 16 = .ok (.iconst 0, 1) := by decide +kernel
theorem dX7_burns_17 : decode cX7_burns 17 = .ok (.istore_n 3, 1) := by decide +kernel
theorem dX7_burns_18 : decode cX7_burns 18 = .ok (.iload_n 3, 1) := by decide +kernel
theorem dX7_burns_19 : decode cX7_burns 19 = .ok (.iconst 5, 1) := by decide +kernel
theorem dX7_burns_20 : decode cX7_burns 20 = .ok (.if_icmp .ge 20, 3) := by decide +kernel
theorem dX7_burns_23 : decode cX7_burns 23 = .ok (.aload_n 0, 1) := by decide +kernel
theorem dX7_burns_24 : decode cX7_burns 24 = .ok (.getfield 35, 3) := by decide +kernel
theorem dX7_burns_27 : decode cX7_burns 27 = .ok (.iconst 5, 1) := by decide +kernel
theorem dX7_burns_28 : decode cX7_burns 28 = .ok (.iload_n 1, 1) := by decide +kernel
theorem dX7_burns_29 : decode cX7_burns 29 = .ok (.imul, 1) := by decide +kernel
theorem dX7_burns_30 : decode cX7_burns 30 = .ok (.iload_n 3, 1) := by decide +kernel
theorem dX7_burns_31 : decode cX7_burns 31 = .ok (.iadd, 1) := by decide +kernel
theorem dX7_burns_32 : decode cX7_burns 32 = .ok (.iconst 0, 1) := by decide +kernel
theorem dX7_burns_33 : decode cX7_burns 33 = .ok (.iastore, 1) := by decide +kernel
theorem dX7_burns_34 : decode cX7_burns 34 = .ok (.iinc 3 1, 3) := by decide +kernel
theorem dX7_burns_37 : decode cX7_burns 37 = .ok (.goto (-19), 3) := by decide +kernel
theorem dX7_burns_40 : decode cX7_burns 40 = .ok (.iload_n 2, 1) := by decide +kernel
theorem dX7_burns_41 : decode cX7_burns 41 = .ok (.ireturn, 1) := by decide +kernel
theorem dX7_plume_0 : decode cX7_plume 0 = .ok (.iload_n 1, 1) := by decide +kernel
theorem dX7_plume_1 : decode cX7_plume 1 = .ok (.iconst 0, 1) := by decide +kernel
theorem dX7_plume_2 : decode cX7_plume 2 = .ok (.aload_n 0, 1) := by decide +kernel
theorem dX7_plume_3 : decode cX7_plume 3 = .ok (.getfield 35, 3) := by decide +kernel
theorem dX7_plume_6 : decode cX7_plume 6 = .ok (.bipush 32, 2) := by decide +kernel
theorem dX7_plume_8 : decode cX7_plume 8 = .ok (.iaload, 1) := by decide +kernel
theorem dX7_plume_9 : decode cX7_plume 9 = .ok (.iconst 1, 1) := by decide +kernel
theorem dX7_plume_10 : decode cX7_plume 10 = .ok (.isub, 1) := by decide +kernel
theorem dX7_plume_11 : decode cX7_plume 11 = .ok (.invokestatic 61, 3) := by decide +kernel
theorem dX7_plume_14 : decode cX7_plume 14 = .ok (.ifCond .eq 12, 3) := by decide +kernel
theorem dX7_plume_17 : decode cX7_plume 17 = .ok (.iload_n 2, 1) := by decide +kernel
theorem dX7_plume_18 : decode cX7_plume 18 = .ok (.iconst 0, 1) := by decide +kernel
theorem dX7_plume_19 : decode cX7_plume 19 = .ok (.iconst 1, 1) := by decide +kernel
theorem dX7_plume_20 : decode cX7_plume 20 = .ok (.invokestatic 61, 3) := by decide +kernel
theorem dX7_plume_23 : decode cX7_plume 23 = .ok (.ifCond .ne 5, 3) := by decide +kernel
theorem dX7_plume_26 : decode cX7_plume 26 = .ok (.iconst (-1), 1) := by decide +kernel
theorem dX7_plume_27 : decode cX7_plume 27 = .ok (.ireturn, 1) := by decide +kernel
theorem dX7_plume_28 : decode cX7_plume 28 = .ok (.iload_n 2, 1) := by decide +kernel
theorem dX7_plume_29 : decode cX7_plume 29 = .ok (.ifCond .ne 17, 3) := by decide +kernel
theorem dX7_plume_32 : decode cX7_plume 32 = .ok (.aload_n 0, 1) := by decide +kernel
theorem dX7_plume_33 : decode cX7_plume 33 = .ok (.getfield 35, 3) := by decide +kernel
theorem dX7_plume_36 : decode cX7_plume 36 = .ok (.bipush 33, 2) := by decide +kernel
theorem dX7_plume_38 : decode cX7_plume 38 = .ok (.iconst 2, 1) := by decide +kernel
theorem dX7_plume_39 : decode cX7_plume 39 = .ok (.iload_n 1, 1) := by decide +kernel
theorem dX7_plume_40 : decode cX7_plume 40 = .ok (.imul, 1) := by decide +kernel
theorem dX7_plume_41 : decode cX7_plume 41 = .ok (.iadd, 1) := by decide +kernel
theorem dX7_plume_42 : decode cX7_plume 42 = .ok (.iaload, 1) := by decide +kernel
theorem dX7_plume_43 : decode cX7_plume 43 = .ok (.goto 21, 3) := by decide +kernel
theorem dX7_plume_46 : decode cX7_plume 46 = .ok (.aload_n 0, 1) := by decide +kernel
theorem dX7_plume_47 : decode cX7_plume 47 = .ok (.getfield 26, 3) := by decide +kernel
theorem dX7_plume_50 : decode cX7_plume 50 = .ok (.aload_n 0, 1) := by decide +kernel
theorem dX7_plume_51 : decode cX7_plume 51 = .ok (.getfield 35, 3) := by decide +kernel
theorem dX7_plume_54 : decode cX7_plume 54 = .ok (.bipush 33, 2) := by decide +kernel
theorem dX7_plume_56 : decode cX7_plume 56 = .ok (.iconst 2, 1) := by decide +kernel
theorem dX7_plume_57 : decode cX7_plume 57 = .ok (.iload_n 1, 1) := by decide +kernel
theorem dX7_plume_58 : decode cX7_plume 58 = .ok (.imul, 1) := by decide +kernel
theorem dX7_plume_59 : decode cX7_plume 59 = .ok (.iadd, 1) := by decide +kernel
theorem dX7_plume_60 : decode cX7_plume 60 = .ok (.iconst 1, 1) := by decide +kernel
theorem dX7_plume_61 : decode cX7_plume 61 = .ok (.iadd, 1) := by decide +kernel
theorem dX7_plume_62 : decode cX7_plume 62 = .ok (.iaload, 1) := by decide +kernel
theorem dX7_plume_63 : decode cX7_plume 63 = .ok (.iaload, 1) := by decide +kernel
theorem dX7_plume_64 : decode cX7_plume 64 = .ok (.ireturn, 1) := by decide +kernel
theorem dX7_fog_0 : decode cX7_fog 0 = .ok (.iload_n 1, 1) := by decide +kernel
theorem dX7_fog_1 : decode cX7_fog 1 = .ok (.iconst 0, 1) := by decide +kernel
theorem dX7_fog_2 : decode cX7_fog 2 = .ok (.iconst 5, 1) := by decide +kernel
theorem dX7_fog_3 : decode cX7_fog 3 = .ok (.invokestatic 61, 3) := by decide +kernel
theorem dX7_fog_6 : decode cX7_fog 6 = .ok (.ifCond .ne 5, 3) := by decide +kernel
theorem dX7_fog_9 : decode cX7_fog 9 = .ok (.iconst (-1), 1) := by decide +kernel
theorem dX7_fog_10 : decode cX7_fog 10 = .ok (.ireturn, 1) := by decide +kernel
theorem dX7_fog_11 : decode cX7_fog 11 = .ok (.aload_n 0, 1) := by decide +kernel
theorem dX7_fog_12 : decode cX7_fog 12 = .ok (.getfield 35, 3) := by decide +kernel
theorem dX7_fog_15 : decode cX7_fog 15 = .ok (.bipush 30, 2) := by decide +kernel
theorem dX7_fog_17 : decode cX7_fog 17 = .ok (.iaload, 1) := by decide +kernel
theorem dX7_fog_18 : decode cX7_fog 18 = .ok (.istore_n 2, 1) := by decide +kernel
theorem dX7_fog_19 : decode cX7_fog 19 = .ok (.aload_n 0, 1) := by decide +kernel
theorem dX7_fog_20 : decode cX7_fog 20 = .ok (.getfield 35, 3) := by decide +kernel
theorem dX7_fog_23 : decode cX7_fog 23 = .ok (.bipush 30, 2) := by decide +kernel
theorem dX7_fog_25 : decode cX7_fog 25 = .ok (.iload_n 1, 1) := by decide +kernel
theorem dX7_fog_26 : decode cX7_fog 26 = .ok (.iastore, 1) := by decide +kernel
theorem dX7_fog_27 : decode cX7_fog 27 = .ok (.iload_n 2, 1) := by decide +kernel
theorem dX7_fog_28 : decode cX7_fog 28 = .ok (.ireturn, 1) := by decide +kernel
theorem dX7_areWords_0 : decode cX7_areWords 0 = .ok (.iload_n 0, 1) := by decide +kernel
theorem dX7_areWords_1 : decode cX7_areWords 1 = .ok (.iconst 0, 1) := by decide +kernel
theorem dX7_areWords_2 : decode cX7_areWords 2 = .ok (.bipush 7, 2) := by decide +kernel
theorem dX7_areWords_4 : decode cX7_areWords 4 = .ok (.invokestatic 61, 3) := by decide +kernel
theorem dX7_areWords_7 : decode cX7_areWords 7 = .ok (.ifCond .eq 35, 3) := by decide +kernel
theorem dX7_areWords_10 : decode cX7_areWords 10 = .ok (.iload_n 1, 1) := by decide +kernel
theorem dX7_areWords_11 : decode cX7_areWords 11 = .ok (.iconst (-1), 1) := by decide +kernel
theorem dX7_areWords_12 : decode cX7_areWords 12 = .ok (.bipush 7, 2) := by decide +kernel
theorem dX7_areWords_14 : decode cX7_areWords 14 = .ok (.invokestatic 61, 3) := by decide +kernel
theorem dX7_areWords_17 : decode cX7_areWords 17 = .ok (.ifCond .eq 25, 3) := by decide +kernel
theorem dX7_areWords_20 : decode cX7_areWords 20 = .ok (.iload_n 2, 1) := by decide +kernel
theorem dX7_areWords_21 : decode cX7_areWords 21 = .ok (.iconst (-1), 1) := by decide +kernel
theorem dX7_areWords_22 : decode cX7_areWords 22 = .ok (.bipush 7, 2) := by decide +kernel
theorem dX7_areWords_24 : decode cX7_areWords 24 = .ok (.invokestatic 61, 3) := by decide +kernel
theorem dX7_areWords_27 : decode cX7_areWords 27 = .ok (.ifCond .eq 15, 3) := by decide +kernel
theorem dX7_areWords_30 : decode cX7_areWords 30 = .ok (.iload_n 1, 1) := by decide +kernel
theorem dX7_areWords_31 : decode cX7_areWords 31 = .ok (.ifCond .ge 7, 3) := by decide +kernel
theorem dX7_areWords_34 : decode cX7_areWords 34 = .ok (.iload_n 2, 1) := by decide +kernel
theorem dX7_areWords_35 : decode cX7_areWords 35 = .ok (.ifCond .ge 7, 3) := by decide +kernel
theorem dX7_areWords_38 : decode cX7_areWords 38 = .ok (.iconst 1, 1) := by decide +kernel
theorem dX7_areWords_39 : decode cX7_areWords 39 = .ok (.goto 4, 3) := by decide +kernel
theorem dX7_areWords_42 : decode cX7_areWords 42 = .ok (.iconst 0, 1) := by decide +kernel
theorem dX7_areWords_43 : decode cX7_areWords 43 = .ok (.ireturn, 1) := by decide +kernel
theorem dX7_hasAll_0 : decode cX7_hasAll 0 = .ok (.iconst 1, 1) := by decide +kernel
theorem dX7_hasAll_1 : decode cX7_hasAll 1 = .ok (.istore_n 2, 1) := by decide +kernel
theorem dX7_hasAll_2 : decode cX7_hasAll 2 = .ok (.iconst 0, 1) := by decide +kernel
theorem dX7_hasAll_3 : decode cX7_hasAll 3 = .ok (.istore_n 3, 1) := by decide +kernel
theorem dX7_hasAll_4 : decode cX7_hasAll 4 = .ok (.iload_n 3, 1) := by decide +kernel
theorem dX7_hasAll_5 : decode cX7_hasAll 5 = .ok (.iconst 5, 1) := by decide +kernel
theorem dX7_hasAll_6 : decode cX7_hasAll 6 = .ok (.if_icmp .ge 89, 3) := by decide +kernel
theorem dX7_hasAll_9 : decode cX7_hasAll 9 = .ok (.iconst 0, 1) := by decide +kernel
theorem dX7_hasAll_10 : decode cX7_hasAll 10 = .ok (.istore 4, 2) := by decide +kernel
theorem dX7_hasAll_12 : decode cX7_hasAll 12 = .ok (.iconst 0, 1) := by decide +kernel
theorem dX7_hasAll_13 : decode cX7_hasAll 13 = .ok (.istore 5, 2) := by decide +kernel
theorem dX7_hasAll_15 : decode cX7_hasAll 15 = .ok (.iload 5, 2) := by decide +kernel
theorem dX7_hasAll_17 : decode cX7_hasAll 17 = .ok (.iconst 3, 1) := by decide +kernel
theorem dX7_hasAll_18 : decode cX7_hasAll 18 = .ok (.if_icmp .ge 46, 3) := by decide +kernel
theorem dX7_hasAll_21 : decode cX7_hasAll 21 = .ok (.iload 4, 2) := by decide +kernel
theorem dX7_hasAll_23 : decode cX7_hasAll 23 = .ok (.aload_n 0, 1) := by decide +kernel
theorem dX7_hasAll_24 : decode cX7_hasAll 24 = .ok (.getfield 42, 3) := by decide +kernel
theorem dX7_hasAll_27 : decode cX7_hasAll 27 = .ok (.iload 5, 2) := by decide +kernel
theorem dX7_hasAll_29 : decode cX7_hasAll 29 = .ok (.iaload, 1) := by decide +kernel
theorem dX7_hasAll_30 : decode cX7_hasAll 30 = .ok (.bipush 8, 2) := by decide +kernel
theorem dX7_hasAll_32 : decode cX7_hasAll 32 = .ok (.if_icmp .ge 22, 3) := by decide +kernel
theorem dX7_hasAll_35 : decode cX7_hasAll 35 = .ok (.aload_n 0, 1) := by decide +kernel
theorem dX7_hasAll_36 : decode cX7_hasAll 36 = .ok (.getfield 23, 3) := by decide +kernel
theorem dX7_hasAll_39 : decode cX7_hasAll 39 = .ok (.iconst 5, 1) := by decide +kernel
theorem dX7_hasAll_40 : decode cX7_hasAll 40 = .ok (.aload_n 0, 1) := by decide +kernel
theorem dX7_hasAll_41 : decode cX7_hasAll 41 = .ok (.getfield 42, 3) := by decide +kernel
theorem dX7_hasAll_44 : decode cX7_hasAll 44 = .ok (.iload 5, 2) := by decide +kernel
theorem dX7_hasAll_46 : decode cX7_hasAll 46 = .ok (.iaload, 1) := by decide +kernel
theorem dX7_hasAll_47 : decode cX7_hasAll 47 = .ok (.imul, 1) := by decide +kernel
theorem dX7_hasAll_48 : decode cX7_hasAll 48 = .ok (.iload_n 3, 1) := by decide +kernel
theorem dX7_hasAll_49 : decode cX7_hasAll 49 = .ok (.iadd, 1) := by decide +kernel
theorem dX7_hasAll_50 : decode cX7_hasAll 50 = .ok (.iaload, 1) := by decide +kernel
theorem dX7_hasAll_51 : decode cX7_hasAll 51 = .ok (.goto 4, 3) := by decide +kernel
theorem dX7_hasAll_54 : decode cX7_hasAll 54 = .ok (.iconst 0, 1) := by decide +kernel
theorem dX7_hasAll_55 : decode cX7_hasAll 55 = .ok (.iadd, 1) := by decide +kernel
theorem dX7_hasAll_56 : decode cX7_hasAll 56 = .ok (.istore 4, 2) := by decide +kernel
theorem dX7_hasAll_58 : decode cX7_hasAll 58 = .ok (.iinc 5 1, 3) := by decide +kernel
theorem dX7_hasAll_61 : decode cX7_hasAll 61 = .ok (.goto (-46), 3) := by decide +kernel
theorem dX7_hasAll_64 : decode cX7_hasAll 64 = .ok (.iload_n 2, 1) := by decide +kernel
theorem dX7_hasAll_65 : decode cX7_hasAll 65 = .ok (.ifCond .eq 22, 3) := by decide +kernel
theorem dX7_hasAll_68 : decode cX7_hasAll 68 = .ok (.iload 4, 2) := by decide +kernel
theorem dX7_hasAll_70 : decode cX7_hasAll 70 = .ok (.aload_n 0, 1) := by decide +kernel
theorem dX7_hasAll_71 : decode cX7_hasAll 71 = .ok (.getfield 35, 3) := by decide +kernel
theorem dX7_hasAll_74 : decode cX7_hasAll 74 = .ok (.iconst 5, 1) := by decide +kernel
theorem dX7_hasAll_75 : decode cX7_hasAll 75 = .ok (.iload_n 1, 1) := by decide +kernel
theorem dX7_hasAll_76 : decode cX7_hasAll 76 = .ok (.imul, 1) := by decide +kernel
theorem dX7_hasAll_77 : decode cX7_hasAll 77 = .ok (.iload_n 3, 1) := by decide +kernel
theorem dX7_hasAll_78 : decode cX7_hasAll 78 = .ok (.iadd, 1) := by decide +kernel
theorem dX7_hasAll_79 : decode cX7_hasAll 79 = .ok (.iaload, 1) := by decide +kernel
theorem dX7_hasAll_80 : decode cX7_hasAll 80 = .ok (.if_icmp .gt 7, 3) := by decide +kernel
theorem dX7_hasAll_83 : decode cX7_hasAll 83 = .ok (.iconst 1, 1) := by decide +kernel
theorem dX7_hasAll_84 : decode cX7_hasAll 84 = .ok (.goto 4, 3) := by decide +kernel
theorem dX7_hasAll_87 : decode cX7_hasAll 87 = .ok (.iconst 0, 1) := by decide +kernel
theorem dX7_hasAll_88 : decode cX7_hasAll 88 = .ok (.istore_n 2, 1) := by decide +kernel
theorem dX7_hasAll_89 : decode cX7_hasAll 89 = .ok (.iinc 3 1, 3) := by decide +kernel
theorem dX7_hasAll_92 : decode cX7_hasAll 92 = .ok (.goto (-88), 3) := by decide +kernel
theorem dX7_hasAll_95 : decode cX7_hasAll 95 = .ok (.iload_n 2, 1) := by decide +kernel
theorem dX7_hasAll_96 : decode cX7_hasAll 96 = .ok (.ireturn, 1) := by decide +kernel
theorem dX7_isRow_0 : decode cX7_isRow 0 = .ok (.aload_n 0, 1) := by decide +kernel
theorem dX7_isRow_1 : decode cX7_isRow 1 = .ok (.getfield 42, 3) := by decide +kernel
theorem dX7_isRow_4 : decode cX7_isRow 4 = .ok (.iconst 0, 1) := by decide +kernel
theorem dX7_isRow_5 : decode cX7_isRow 5 = .ok (.iload_n 1, 1) := by decide +kernel
theorem dX7_isRow_6 : decode cX7_isRow 6 = .ok (.bipush 81, 2) := by decide +kernel
theorem dX7_isRow_8 : decode cX7_isRow 8 = .ok (.idiv, 1) := by decide +kernel
theorem dX7_isRow_9 : decode cX7_isRow 9 = .ok (.iastore, 1) := by decide +kernel
theorem dX7_isRow_10 : decode cX7_isRow 10 = .ok (.aload_n 0, 1) := by decide +kernel
theorem dX7_isRow_11 : decode cX7_isRow 11 = .ok (.getfield 42, 3) := by decide +kernel
theorem dX7_isRow_14 : decode cX7_isRow 14 = .ok (.iconst 1, 1) := by decide +kernel
theorem dX7_isRow_15 : decode cX7_isRow 15 = .ok (.iload_n 1, 1) := by decide +kernel
theorem dX7_isRow_16 : decode cX7_isRow 16 = .ok (.bipush 9, 2) := by decide +kernel
theorem dX7_isRow_18 : decode cX7_isRow 18 = .ok (.idiv, 1) := by decide +kernel
theorem dX7_isRow_19 : decode cX7_isRow 19 = .ok (.bipush 9, 2) := by decide +kernel
theorem dX7_isRow_21 : decode cX7_isRow 21 = .ok (.irem, 1) := by decide +kernel
theorem dX7_isRow_22 : decode cX7_isRow 22 = .ok (.iastore, 1) := by decide +kernel
theorem dX7_isRow_23 : decode cX7_isRow 23 = .ok (.aload_n 0, 1) := by decide +kernel
theorem dX7_isRow_24 : decode cX7_isRow 24 = .ok (.getfield 42, 3) := by decide +kernel
theorem dX7_isRow_27 : decode cX7_isRow 27 = .ok (.iconst 2, 1) := by decide +kernel
theorem dX7_isRow_28 : decode cX7_isRow 28 = .ok (.iload_n 1, 1) := by decide +kernel
theorem dX7_isRow_29 : decode cX7_isRow 29 = .ok (.bipush 9, 2) := by decide +kernel
theorem dX7_isRow_31 : decode cX7_isRow 31 = .ok (.irem, 1) := by decide +kernel
theorem dX7_isRow_32 : decode cX7_isRow 32 = .ok (.iastore, 1) := by decide +kernel
theorem dX7_isRow_33 : decode cX7_isRow 33 = .ok (.iconst 1, 1) := by decide +kernel
theorem dX7_isRow_34 : decode cX7_isRow 34 = .ok (.istore_n 3, 1) := by decide +kernel
theorem dX7_isRow_35 : decode cX7_isRow 35 = .ok (.iconst 0, 1) := by decide +kernel
theorem dX7_isRow_36 : decode cX7_isRow 36 = .ok (.istore 4, 2) := by decide +kernel
theorem dX7_isRow_38 : decode cX7_isRow 38 = .ok (.iload 4, 2) := by decide +kernel
theorem dX7_isRow_40 : decode cX7_isRow 40 = .ok (.iconst 3, 1) := by decide +kernel
theorem dX7_isRow_41 : decode cX7_isRow 41 = .ok (.if_icmp .ge 104, 3) := by decide +kernel
theorem dX7_isRow_44 : decode cX7_isRow 44 = .ok (.iload_n 2, 1) := by decide +kernel
theorem dX7_isRow_45 : decode cX7_isRow 45 = .ok (.iload 4, 2) := by decide +kernel
theorem dX7_isRow_47 : decode cX7_isRow 47 = .ok (.ishr, 1) := by decide +kernel
theorem dX7_isRow_48 : decode cX7_isRow 48 = .ok (.iconst 1, 1) := by decide +kernel
theorem dX7_isRow_49 : decode cX7_isRow 49 = .ok (.iand, 1) := by decide +kernel
theorem dX7_isRow_50 : decode cX7_isRow 50 = .ok (.iconst 1, 1) := by decide +kernel
theorem dX7_isRow_51 : decode cX7_isRow 51 = .ok (.if_icmp .ne 17, 3) := by decide +kernel
theorem dX7_isRow_54 : decode cX7_isRow 54 = .ok (.aload_n 0, 1) := by decide +kernel
theorem dX7_isRow_55 : decode cX7_isRow 55 = .ok (.getfield 48, 3) := by decide +kernel
theorem dX7_isRow_58 : decode cX7_isRow 58 = .ok (.iload 4, 2) := by decide +kernel
theorem dX7_isRow_60 : decode cX7_isRow 60 = .ok (.iaload, 1) := by decide +kernel
theorem dX7_isRow_61 : decode cX7_isRow 61 = .ok (.ifCond .lt 7, 3) := by decide +kernel
theorem dX7_isRow_64 : decode cX7_isRow 64 = .ok (.iconst 1, 1) := by decide +kernel
theorem dX7_isRow_65 : decode cX7_isRow 65 = .ok (.goto 4, 3) := by decide +kernel
theorem dX7_isRow_68 : decode cX7_isRow 68 = .ok (.iconst 0, 1) := by decide +kernel
theorem dX7_isRow_69 : decode cX7_isRow 69 = .ok (.istore 5, 2) := by decide +kernel
theorem dX7_isRow_71 : decode cX7_isRow 71 = .ok (.iload_n 3, 1) := by decide +kernel
theorem dX7_isRow_72 : decode cX7_isRow 72 = .ok (.ifCond .eq 65, 3) := by decide +kernel
theorem dX7_isRow_75 : decode cX7_isRow 75 = .ok (.iload 5, 2) := by decide +kernel
theorem dX7_isRow_77 : decode cX7_isRow 77 = .ok (.ifCond .eq 44, 3) := by decide +kernel
theorem dX7_isRow_80 : decode cX7_isRow 80 = .ok (.aload_n 0, 1) := by decide +kernel
theorem dX7_isRow_81 : decode cX7_isRow 81 = .ok (.getfield 42, 3) := by decide +kernel
theorem dX7_isRow_84 : decode cX7_isRow 84 = .ok (.iload 4, 2) := by decide +kernel
theorem dX7_isRow_86 : decode cX7_isRow 86 = .ok (.iaload, 1) := by decide +kernel
theorem dX7_isRow_87 : decode cX7_isRow 87 = .ok (.aload_n 0, 1) := by decide +kernel
theorem dX7_isRow_88 : decode cX7_isRow 88 = .ok (.getfield 20, 3) := by decide +kernel
theorem dX7_isRow_91 : decode cX7_isRow 91 = .ok (.iconst 0, 1) := by decide +kernel
theorem dX7_isRow_92 : decode cX7_isRow 92 = .ok (.iaload, 1) := by decide +kernel
theorem dX7_isRow_93 : decode cX7_isRow 93 = .ok (.if_icmp .ge 44, 3) := by decide +kernel
theorem dX7_isRow_96 : decode cX7_isRow 96 = .ok (.aload_n 0, 1) := by decide +kernel
theorem dX7_isRow_97 : decode cX7_isRow 97 = .ok (.getfield 29, 3) := by decide +kernel
theorem dX7_isRow_100 : decode cX7_isRow 100 = .ok (.aload_n 0, 1) := by decide +kernel
theorem dX7_isRow_101 : decode cX7_isRow 101 = .ok (.getfield 42, 3) := by decide +kernel
theorem dX7_isRow_104 : decode cX7_isRow 104 = .ok (.iload 4, 2) := by decide +kernel
theorem dX7_isRow_106 : decode cX7_isRow 106 = .ok (.iaload, 1) := by decide +kernel
theorem dX7_isRow_107 : decode cX7_isRow 107 = .ok (.iaload, 1) := by decide +kernel
theorem dX7_isRow_108 : decode cX7_isRow 108 = .ok (.aload_n 0, 1) := by decide +kernel
theorem dX7_isRow_109 : decode cX7_isRow 109 = .ok (.getfield 48, 3) := by decide +kernel
theorem dX7_isRow_112 : decode cX7_isRow 112 = .ok (.iload 4, 2) := by decide +kernel
theorem dX7_isRow_114 : decode cX7_isRow 114 = .ok (.iaload, 1) := by decide +kernel
theorem dX7_isRow_115 : decode cX7_isRow 115 = .ok (.if_icmp .ne 22, 3) := by decide +kernel
theorem dX7_isRow_118 : decode cX7_isRow 118 = .ok (.goto 15, 3) := by decide +kernel
theorem dX7_isRow_121 : decode cX7_isRow 121 = .ok (.aload_n 0, 1) := by decide +kernel
theorem dX7_isRow_122 : decode cX7_isRow 122 = .ok (.getfield 42, 3) := by decide +kernel
theorem dX7_isRow_125 : decode cX7_isRow 125 = .ok (.iload 4, 2) := by decide +kernel
theorem dX7_isRow_127 : decode cX7_isRow 127 = .ok (.iaload, 1) := by decide +kernel
theorem dX7_isRow_128 : decode cX7_isRow 128 = .ok (.bipush 8, 2) := by decide +kernel
theorem dX7_isRow_130 : decode cX7_isRow 130 = .ok (.if_icmp .ne 7, 3) := by decide +kernel
theorem dX7_isRow_133 : decode cX7_isRow 133 = .ok (.iconst 1, 1) := by decide +kernel
theorem dX7_isRow_134 : decode cX7_isRow 134 = .ok (.goto 4, 3) := by decide +kernel
theorem dX7_isRow_137 : decode cX7_isRow 137 = .ok (.iconst 0, 1) := by decide +kernel
theorem dX7_isRow_138 : decode cX7_isRow 138 = .ok (.istore_n 3, 1) := by decide +kernel
theorem dX7_isRow_139 : decode cX7_isRow 139 = .ok (.iinc 4 1, 3) := by decide +kernel
theorem dX7_isRow_142 : decode cX7_isRow 142 = .ok (.goto (-104), 3) := by decide +kernel
theorem dX7_isRow_145 : decode cX7_isRow 145 = .ok (.iload_n 3, 1) := by decide +kernel
theorem dX7_isRow_146 : decode cX7_isRow 146 = .ok (.ireturn, 1) := by decide +kernel
theorem dX7_ask_0 : decode cX7_ask 0 = .ok (.aload_n 0, 1) := by decide +kernel
theorem dX7_ask_1 : decode cX7_ask 1 = .ok (.getfield 48, 3) := by decide +kernel
theorem dX7_ask_4 : decode cX7_ask 4 = .ok (.iconst 0, 1) := by decide +kernel
theorem dX7_ask_5 : decode cX7_ask 5 = .ok (.iload_n 1, 1) := by decide +kernel
theorem dX7_ask_6 : decode cX7_ask 6 = .ok (.iastore, 1) := by decide +kernel
theorem dX7_ask_7 : decode cX7_ask 7 = .ok (.aload_n 0, 1) := by decide +kernel
theorem dX7_ask_8 : decode cX7_ask 8 = .ok (.getfield 48, 3) := by decide +kernel
theorem dX7_ask_11 : decode cX7_ask 11 = .ok (.iconst 1, 1) := by decide +kernel
theorem dX7_ask_12 : decode cX7_ask 12 = .ok (.iload_n 2, 1) := by decide +kernel
theorem dX7_ask_13 : decode cX7_ask 13 = .ok (.iastore, 1) := by decide +kernel
theorem dX7_ask_14 : decode cX7_ask 14 = .ok (.aload_n 0, 1) := by decide +kernel
theorem dX7_ask_15 : decode cX7_ask 15 = .ok (.getfield 48, 3) := by decide +kernel
theorem dX7_ask_18 : decode cX7_ask 18 = .ok (.iconst 2, 1) := by decide +kernel
theorem dX7_ask_19 : decode cX7_ask 19 = .ok (.iload_n 3, 1) := by decide +kernel
theorem dX7_ask_20 : decode cX7_ask 20 = .ok (.iastore, 1) := by decide +kernel
theorem dX7_ask_21 : decode cX7_ask 21 = .ok (.return_, 1) := by decide +kernel
theorem dX7_unitsFor_0 : decode cX7_unitsFor 0 = .ok (.bipush (-9), 2) := by decide +kernel
theorem dX7_unitsFor_2 : decode cX7_unitsFor 2 = .ok (.istore_n 3, 1) := by decide +kernel
theorem dX7_unitsFor_3 : decode cX7_unitsFor 3 = .ok (.iconst 0, 1) := by decide +kernel
theorem dX7_unitsFor_4 : decode cX7_unitsFor 4 = .ok (.istore 4, 2) := by decide +kernel
end
section
theorem dX7_unitsFor_6 : decode cX7_unitsFor 6 = .ok (.iload 4, 2) := by decide +kernel
theorem dX7_unitsFor_8 : decode cX7_unitsFor 8 = .ok (.sipush 729, 3) := by decide +kernel
theorem dX7_unitsFor_11 : decode cX7_unitsFor 11 = .ok (.if_icmp .ge 121, 3) := by decide +kernel
theorem dX7_unitsFor_14 : decode cX7_unitsFor 14 = .ok (.aload_n 0, 1) := by decide +kernel
theorem dX7_unitsFor_15 : decode cX7_unitsFor 15 = .ok (.iload 4, 2) := by decide +kernel
theorem dX7_unitsFor_17 : decode cX7_unitsFor 17 = .ok (.iload_n 2, 1) := by decide +kernel
theorem dX7_unitsFor_18 : decode cX7_unitsFor 18 = .ok (.invokevirtual 128, 3) := by decide +kernel
theorem dX7_unitsFor_21 : decode cX7_unitsFor 21 = .ok (.ifCond .eq 105, 3) := by decide +kernel
theorem dX7_unitsFor_24 : decode cX7_unitsFor 24 = .ok (.aload_n 0, 1) := by decide +kernel
theorem dX7_unitsFor_25 : decode cX7_unitsFor 25 = .ok (.iload_n 1, 1) := by decide +kernel
theorem dX7_unitsFor_26 : decode cX7_unitsFor 26 = .ok (.invokevirtual 131, 3) := by decide +kernel
theorem dX7_unitsFor_29 : decode cX7_unitsFor 29 = .ok (.ifCond .eq 97, 3) := by decide +kernel
theorem dX7_unitsFor_32 : decode cX7_unitsFor 32 = .ok (.iconst 0, 1) := by decide +kernel
theorem dX7_unitsFor_33 : decode cX7_unitsFor 33 = .ok (.istore 5, 2) := by decide +kernel
theorem dX7_unitsFor_35 : decode cX7_unitsFor 35 = .ok (.iconst 0, 1) := by decide +kernel
theorem dX7_unitsFor_36 : decode cX7_unitsFor 36 = .ok (.istore 6, 2) := by decide +kernel
theorem dX7_unitsFor_38 : decode cX7_unitsFor 38 = .ok (.iload 6, 2) := by decide +kernel
theorem dX7_unitsFor_40 : decode cX7_unitsFor 40 = .ok (.iconst 3, 1) := by decide +kernel
theorem dX7_unitsFor_41 : decode cX7_unitsFor 41 = .ok (.if_icmp .ge 41, 3) := by decide +kernel
theorem dX7_unitsFor_44 : decode cX7_unitsFor 44 = .ok (.iload 5, 2) := by decide +kernel
theorem dX7_unitsFor_46 : decode cX7_unitsFor 46 = .ok (.aload_n 0, 1) := by decide +kernel
theorem dX7_unitsFor_47 : decode cX7_unitsFor 47 = .ok (.getfield 42, 3) := by decide +kernel
theorem dX7_unitsFor_50 : decode cX7_unitsFor 50 = .ok (.iload 6, 2) := by decide +kernel
theorem dX7_unitsFor_52 : decode cX7_unitsFor 52 = .ok (.iaload, 1) := by decide +kernel
theorem dX7_unitsFor_53 : decode cX7_unitsFor 53 = .ok (.bipush 8, 2) := by decide +kernel
theorem dX7_unitsFor_55 : decode cX7_unitsFor 55 = .ok (.if_icmp .ge 17, 3) := by decide +kernel
theorem dX7_unitsFor_58 : decode cX7_unitsFor 58 = .ok (.aload_n 0, 1) := by decide +kernel
theorem dX7_unitsFor_59 : decode cX7_unitsFor 59 = .ok (.aload_n 0, 1) := by decide +kernel
theorem dX7_unitsFor_60 : decode cX7_unitsFor 60 = .ok (.getfield 42, 3) := by decide +kernel
theorem dX7_unitsFor_63 : decode cX7_unitsFor 63 = .ok (.iload 6, 2) := by decide +kernel
theorem dX7_unitsFor_65 : decode cX7_unitsFor 65 = .ok (.iaload, 1) := by decide +kernel
theorem dX7_unitsFor_66 : decode cX7_unitsFor 66 = .ok (.invokevirtual 121, 3) := by decide +kernel
theorem dX7_unitsFor_69 : decode cX7_unitsFor 69 = .ok (.goto 4, 3) := by decide +kernel
theorem dX7_unitsFor_72 : decode cX7_unitsFor 72 = .ok (.iconst 0, 1) := by decide +kernel
theorem dX7_unitsFor_73 : decode cX7_unitsFor 73 = .ok (.iadd, 1) := by decide +kernel
theorem dX7_unitsFor_74 : decode cX7_unitsFor 74 = .ok (.istore 5, 2) := by decide +kernel
theorem dX7_unitsFor_76 : decode cX7_unitsFor 76 = .ok (.iinc 6 1, 3) := by decide +kernel
theorem dX7_unitsFor_79 : decode cX7_unitsFor 79 = .ok (.goto (-41), 3) := by decide +kernel
theorem dX7_unitsFor_82 : decode cX7_unitsFor 82 = .ok (.iload_n 3, 1) := by decide +kernel
theorem dX7_unitsFor_83 : decode cX7_unitsFor 83 = .ok (.bipush (-9), 2) := by decide +kernel
theorem dX7_unitsFor_85 : decode cX7_unitsFor 85 = .ok (.if_icmp .eq 9, 3) := by decide +kernel
theorem dX7_unitsFor_88 : decode cX7_unitsFor 88 = .ok (.iload 5, 2) := by decide +kernel
theorem dX7_unitsFor_90 : decode cX7_unitsFor 90 = .ok (.iload_n 3, 1) := by decide +kernel
theorem dX7_unitsFor_91 : decode cX7_unitsFor 91 = .ok (.if_icmp .ge 35, 3) := by decide +kernel
theorem dX7_unitsFor_94 : decode cX7_unitsFor 94 = .ok (.iload 5, 2) := by decide +kernel
theorem dX7_unitsFor_96 : decode cX7_unitsFor 96 = .ok (.istore_n 3, 1) := by decide +kernel
theorem dX7_unitsFor_97 : decode cX7_unitsFor 97 = .ok (.iconst 0, 1) := by decide +kernel
theorem dX7_unitsFor_98 : decode cX7_unitsFor 98 = .ok (.istore 6, 2) := by decide +kernel
theorem dX7_unitsFor_100 : decode cX7_unitsFor 100 = .ok (.iload 6, 2) := by decide +kernel
theorem dX7_unitsFor_102 : decode cX7_unitsFor 102 = .ok (.iconst 3, 1) := by decide +kernel
theorem dX7_unitsFor_103 : decode cX7_unitsFor 103 = .ok (.if_icmp .ge 23, 3) := by decide +kernel
theorem dX7_unitsFor_106 : decode cX7_unitsFor 106 = .ok (.aload_n 0, 1) := by decide +kernel
theorem dX7_unitsFor_107 : decode cX7_unitsFor 107 = .ok (.getfield 45, 3) := by decide +kernel
theorem dX7_unitsFor_110 : decode cX7_unitsFor 110 = .ok (.iload 6, 2) := by decide +kernel
theorem dX7_unitsFor_112 : decode cX7_unitsFor 112 = .ok (.aload_n 0, 1) := by decide +kernel
theorem dX7_unitsFor_113 : decode cX7_unitsFor 113 = .ok (.getfield 42, 3) := by decide +kernel
theorem dX7_unitsFor_116 : decode cX7_unitsFor 116 = .ok (.iload 6, 2) := by decide +kernel
theorem dX7_unitsFor_118 : decode cX7_unitsFor 118 = .ok (.iaload, 1) := by decide +kernel
theorem dX7_unitsFor_119 : decode cX7_unitsFor 119 = .ok (.iastore, 1) := by decide +kernel
theorem dX7_unitsFor_120 : decode cX7_unitsFor 120 = .ok (.iinc 6 1, 3) := by decide +kernel
theorem dX7_unitsFor_123 : decode cX7_unitsFor 123 = .ok (.goto (-23), 3) := by decide +kernel
theorem dX7_unitsFor_126 : decode cX7_unitsFor 126 = .ok (.iinc 4 1, 3) := by decide +kernel
theorem dX7_unitsFor_129 : decode cX7_unitsFor 129 = .ok (.goto (-123), 3) := by decide +kernel
theorem dX7_unitsFor_132 : decode cX7_unitsFor 132 = .ok (.iload_n 3, 1) := by decide +kernel
theorem dX7_unitsFor_133 : decode cX7_unitsFor 133 = .ok (.ireturn, 1) := by decide +kernel
theorem dX7_says_0 : decode cX7_says 0 = .ok (.aload_n 0, 1) := by decide +kernel
theorem dX7_says_1 : decode cX7_says 1 = .ok (.iload_n 1, 1) := by decide +kernel
theorem dX7_says_2 : decode cX7_says 2 = .ok (.invokevirtual 111, 3) := by decide +kernel
theorem dX7_says_5 : decode cX7_says 5 = .ok (.ifCond .eq 23, 3) := by decide +kernel
theorem dX7_says_8 : decode cX7_says 8 = .ok (.iload_n 2, 1) := by decide +kernel
theorem dX7_says_9 : decode cX7_says 9 = .ok (.iload_n 3, 1) := by decide +kernel
theorem dX7_says_10 : decode cX7_says 10 = .ok (.iload 4, 2) := by decide +kernel
theorem dX7_says_12 : decode cX7_says 12 = .ok (.invokestatic 134, 3) := by decide +kernel
theorem dX7_says_15 : decode cX7_says 15 = .ok (.ifCond .eq 13, 3) := by decide +kernel
theorem dX7_says_18 : decode cX7_says 18 = .ok (.iload 5, 2) := by decide +kernel
theorem dX7_says_20 : decode cX7_says 20 = .ok (.iconst (-1), 1) := by decide +kernel
theorem dX7_says_21 : decode cX7_says 21 = .ok (.iconst 2, 1) := by decide +kernel
theorem dX7_says_22 : decode cX7_says 22 = .ok (.invokestatic 61, 3) := by decide +kernel
theorem dX7_says_25 : decode cX7_says 25 = .ok (.ifCond .ne 5, 3) := by decide +kernel
theorem dX7_says_28 : decode cX7_says 28 = .ok (.iconst (-1), 1) := by decide +kernel
theorem dX7_says_29 : decode cX7_says 29 = .ok (.ireturn, 1) := by decide +kernel
theorem dX7_says_30 : decode cX7_says 30 = .ok (.aload_n 0, 1) := by decide +kernel
theorem dX7_says_31 : decode cX7_says 31 = .ok (.iload_n 2, 1) := by decide +kernel
theorem dX7_says_32 : decode cX7_says 32 = .ok (.iload_n 3, 1) := by decide +kernel
theorem dX7_says_33 : decode cX7_says 33 = .ok (.iload 4, 2) := by decide +kernel
theorem dX7_says_35 : decode cX7_says 35 = .ok (.invokevirtual 137, 3) := by decide +kernel
theorem dX7_says_38 : decode cX7_says 38 = .ok (.aload_n 0, 1) := by decide +kernel
theorem dX7_says_39 : decode cX7_says 39 = .ok (.iload_n 1, 1) := by decide +kernel
theorem dX7_says_40 : decode cX7_says 40 = .ok (.bipush 7, 2) := by decide +kernel
theorem dX7_says_42 : decode cX7_says 42 = .ok (.invokevirtual 141, 3) := by decide +kernel
theorem dX7_says_45 : decode cX7_says 45 = .ok (.istore 6, 2) := by decide +kernel
theorem dX7_says_47 : decode cX7_says 47 = .ok (.iload 6, 2) := by decide +kernel
theorem dX7_says_49 : decode cX7_says 49 = .ok (.bipush (-9), 2) := by decide +kernel
theorem dX7_says_51 : decode cX7_says 51 = .ok (.if_icmp .eq 8, 3) := by decide +kernel
theorem dX7_says_54 : decode cX7_says 54 = .ok (.iload 5, 2) := by decide +kernel
theorem dX7_says_56 : decode cX7_says 56 = .ok (.ifCond .ge 8, 3) := by decide +kernel
theorem dX7_says_59 : decode cX7_says 59 = .ok (.iload 6, 2) := by decide +kernel
theorem dX7_says_61 : decode cX7_says 61 = .ok (.goto 25, 3) := by decide +kernel
theorem dX7_says_64 : decode cX7_says 64 = .ok (.aload_n 0, 1) := by decide +kernel
theorem dX7_says_65 : decode cX7_says 65 = .ok (.getfield 48, 3) := by decide +kernel
theorem dX7_says_68 : decode cX7_says 68 = .ok (.iload 5, 2) := by decide +kernel
theorem dX7_says_70 : decode cX7_says 70 = .ok (.iaload, 1) := by decide +kernel
theorem dX7_says_71 : decode cX7_says 71 = .ok (.ifCond .ge 8, 3) := by decide +kernel
theorem dX7_says_74 : decode cX7_says 74 = .ok (.bipush (-5), 2) := by decide +kernel
theorem dX7_says_76 : decode cX7_says 76 = .ok (.goto 10, 3) := by decide +kernel
theorem dX7_says_79 : decode cX7_says 79 = .ok (.aload_n 0, 1) := by decide +kernel
theorem dX7_says_80 : decode cX7_says 80 = .ok (.getfield 45, 3) := by decide +kernel
theorem dX7_says_83 : decode cX7_says 83 = .ok (.iload 5, 2) := by decide +kernel
theorem dX7_says_85 : decode cX7_says 85 = .ok (.iaload, 1) := by decide +kernel
theorem dX7_says_86 : decode cX7_says 86 = .ok (.ireturn, 1) := by decide +kernel
theorem dX7_bitsIn_0 : decode cX7_bitsIn 0 = .ok (.iconst 0, 1) := by decide +kernel
theorem dX7_bitsIn_1 : decode cX7_bitsIn 1 = .ok (.istore_n 1, 1) := by decide +kernel
theorem dX7_bitsIn_2 : decode cX7_bitsIn 2 = .ok (.iconst 0, 1) := by decide +kernel
theorem dX7_bitsIn_3 : decode cX7_bitsIn 3 = .ok (.istore_n 2, 1) := by decide +kernel
theorem dX7_bitsIn_4 : decode cX7_bitsIn 4 = .ok (.iload_n 2, 1) := by decide +kernel
theorem dX7_bitsIn_5 : decode cX7_bitsIn 5 = .ok (.bipush 8, 2) := by decide +kernel
theorem dX7_bitsIn_7 : decode cX7_bitsIn 7 = .ok (.if_icmp .ge 17, 3) := by decide +kernel
theorem dX7_bitsIn_10 : decode cX7_bitsIn 10 = .ok (.iload_n 1, 1) := by decide +kernel
theorem dX7_bitsIn_11 : decode cX7_bitsIn 11 = .ok (.iload_n 0, 1) := by decide +kernel
theorem dX7_bitsIn_12 : decode cX7_bitsIn 12 = .ok (.iload_n 2, 1) := by decide +kernel
theorem dX7_bitsIn_13 : decode cX7_bitsIn 13 = .ok (.ishr, 1) := by decide +kernel
theorem dX7_bitsIn_14 : decode cX7_bitsIn 14 = .ok (.iconst 1, 1) := by decide +kernel
theorem dX7_bitsIn_15 : decode cX7_bitsIn 15 = .ok (.iand, 1) := by decide +kernel
theorem dX7_bitsIn_16 : decode cX7_bitsIn 16 = .ok (.iadd, 1) := by decide +kernel
theorem dX7_bitsIn_17 : decode cX7_bitsIn 17 = .ok (.istore_n 1, 1) := by decide +kernel
theorem dX7_bitsIn_18 : decode cX7_bitsIn 18 = .ok (.iinc 2 1, 3) := by decide +kernel
theorem dX7_bitsIn_21 : decode cX7_bitsIn 21 = .ok (.goto (-17), 3) := by decide +kernel
theorem dX7_bitsIn_24 : decode cX7_bitsIn 24 = .ok (.iload_n 1, 1) := by decide +kernel
theorem dX7_bitsIn_25 : decode cX7_bitsIn 25 = .ok (.ireturn, 1) := by decide +kernel
theorem dX7_nearest_0 : decode cX7_nearest 0 = .ok (.aload_n 0, 1) := by decide +kernel
theorem dX7_nearest_1 : decode cX7_nearest 1 = .ok (.iload_n 1, 1) := by decide +kernel
theorem dX7_nearest_2 : decode cX7_nearest 2 = .ok (.invokevirtual 111, 3) := by decide +kernel
theorem dX7_nearest_5 : decode cX7_nearest 5 = .ok (.ifCond .eq 13, 3) := by decide +kernel
theorem dX7_nearest_8 : decode cX7_nearest 8 = .ok (.iload_n 2, 1) := by decide +kernel
theorem dX7_nearest_9 : decode cX7_nearest 9 = .ok (.iload_n 3, 1) := by decide +kernel
theorem dX7_nearest_10 : decode cX7_nearest 10 = .ok (.iload 4, 2) := by decide +kernel
theorem dX7_nearest_12 : decode cX7_nearest 12 = .ok (.invokestatic 134, 3) := by decide +kernel
theorem dX7_nearest_15 : decode cX7_nearest 15 = .ok (.ifCond .ne 5, 3) := by decide +kernel
theorem dX7_nearest_18 : decode cX7_nearest 18 = .ok (.iconst (-1), 1) := by decide +kernel
theorem dX7_nearest_19 : decode cX7_nearest 19 = .ok (.ireturn, 1) := by decide +kernel
theorem dX7_nearest_20 : decode cX7_nearest 20 = .ok (.aload_n 0, 1) := by decide +kernel
theorem dX7_nearest_21 : decode cX7_nearest 21 = .ok (.iload_n 2, 1) := by decide +kernel
theorem dX7_nearest_22 : decode cX7_nearest 22 = .ok (.iload_n 3, 1) := by decide +kernel
theorem dX7_nearest_23 : decode cX7_nearest 23 = .ok (.iload 4, 2) := by decide +kernel
theorem dX7_nearest_25 : decode cX7_nearest 25 = .ok (.invokevirtual 137, 3) := by decide +kernel
theorem dX7_nearest_28 : decode cX7_nearest 28 = .ok (.iload 4, 2) := by decide +kernel
theorem dX7_nearest_30 : decode cX7_nearest 30 = .ok (.ifCond .lt 8, 3) := by decide +kernel
theorem dX7_nearest_33 : decode cX7_nearest 33 = .ok (.bipush 7, 2) := by decide +kernel
theorem dX7_nearest_35 : decode cX7_nearest 35 = .ok (.goto 12, 3) := by decide +kernel
theorem dX7_nearest_38 : decode cX7_nearest 38 = .ok (.iload_n 3, 1) := by decide +kernel
theorem dX7_nearest_39 : decode cX7_nearest 39 = .ok (.ifCond .lt 7, 3) := by decide +kernel
theorem dX7_nearest_42 : decode cX7_nearest 42 = .ok (.iconst 3, 1) := by decide +kernel
theorem dX7_nearest_43 : decode cX7_nearest 43 = .ok (.goto 4, 3) := by decide +kernel
theorem dX7_nearest_46 : decode cX7_nearest 46 = .ok (.iconst 1, 1) := by decide +kernel
theorem dX7_nearest_47 : decode cX7_nearest 47 = .ok (.istore 5, 2) := by decide +kernel
theorem dX7_nearest_49 : decode cX7_nearest 49 = .ok (.iconst 0, 1) := by decide +kernel
theorem dX7_nearest_50 : decode cX7_nearest 50 = .ok (.istore 6, 2) := by decide +kernel
theorem dX7_nearest_52 : decode cX7_nearest 52 = .ok (.iconst 1, 1) := by decide +kernel
theorem dX7_nearest_53 : decode cX7_nearest 53 = .ok (.istore 7, 2) := by decide +kernel
theorem dX7_nearest_55 : decode cX7_nearest 55 = .ok (.iload 7, 2) := by decide +kernel
theorem dX7_nearest_57 : decode cX7_nearest 57 = .ok (.iload 5, 2) := by decide +kernel
theorem dX7_nearest_59 : decode cX7_nearest 59 = .ok (.if_icmp .gt 43, 3) := by decide +kernel
theorem dX7_nearest_62 : decode cX7_nearest 62 = .ok (.iload 7, 2) := by decide +kernel
theorem dX7_nearest_64 : decode cX7_nearest 64 = .ok (.invokestatic 145, 3) := by decide +kernel
theorem dX7_nearest_67 : decode cX7_nearest 67 = .ok (.iload 6, 2) := by decide +kernel
theorem dX7_nearest_69 : decode cX7_nearest 69 = .ok (.invokestatic 145, 3) := by decide +kernel
theorem dX7_nearest_72 : decode cX7_nearest 72 = .ok (.if_icmp .le 20, 3) := by decide +kernel
theorem dX7_nearest_75 : decode cX7_nearest 75 = .ok (.aload_n 0, 1) := by decide +kernel
theorem dX7_nearest_76 : decode cX7_nearest 76 = .ok (.iload_n 1, 1) := by decide +kernel
theorem dX7_nearest_77 : decode cX7_nearest 77 = .ok (.iload 7, 2) := by decide +kernel
theorem dX7_nearest_79 : decode cX7_nearest 79 = .ok (.invokevirtual 141, 3) := by decide +kernel
theorem dX7_nearest_82 : decode cX7_nearest 82 = .ok (.bipush (-9), 2) := by decide +kernel
theorem dX7_nearest_84 : decode cX7_nearest 84 = .ok (.if_icmp .eq 8, 3) := by decide +kernel
theorem dX7_nearest_87 : decode cX7_nearest 87 = .ok (.iload 7, 2) := by decide +kernel
theorem dX7_nearest_89 : decode cX7_nearest 89 = .ok (.goto 5, 3) := by decide +kernel
theorem dX7_nearest_92 : decode cX7_nearest 92 = .ok (.iload 6, 2) := by decide +kernel
theorem dX7_nearest_94 : decode cX7_nearest 94 = .ok (.istore 6, 2) := by decide +kernel
theorem dX7_nearest_96 : decode cX7_nearest 96 = .ok (.iinc 7 1, 3) := by decide +kernel
theorem dX7_nearest_99 : decode cX7_nearest 99 = .ok (.goto (-44), 3) := by decide +kernel
theorem dX7_nearest_102 : decode cX7_nearest 102 = .ok (.iload 6, 2) := by decide +kernel
theorem dX7_nearest_104 : decode cX7_nearest 104 = .ok (.ireturn, 1) := by decide +kernel
theorem dX7_readAs_0 : decode cX7_readAs 0 = .ok (.iconst 1, 1) := by decide +kernel
theorem dX7_readAs_1 : decode cX7_readAs 1 = .ok (.istore_n 3, 1) := by decide +kernel
theorem dX7_readAs_2 : decode cX7_readAs 2 = .ok (.iconst 0, 1) := by decide +kernel
theorem dX7_readAs_3 : decode cX7_readAs 3 = .ok (.istore 4, 2) := by decide +kernel
theorem dX7_readAs_5 : decode cX7_readAs 5 = .ok (.iload 4, 2) := by decide +kernel
theorem dX7_readAs_7 : decode cX7_readAs 7 = .ok (.iconst 3, 1) := by decide +kernel
theorem dX7_readAs_8 : decode cX7_readAs 8 = .ok (.if_icmp .ge 44, 3) := by decide +kernel
theorem dX7_readAs_11 : decode cX7_readAs 11 = .ok (.iload_n 3, 1) := by decide +kernel
theorem dX7_readAs_12 : decode cX7_readAs 12 = .ok (.iload_n 1, 1) := by decide +kernel
theorem dX7_readAs_13 : decode cX7_readAs 13 = .ok (.iload_n 2, 1) := by decide +kernel
theorem dX7_readAs_14 : decode cX7_readAs 14 = .ok (.ixor, 1) := by decide +kernel
theorem dX7_readAs_15 : decode cX7_readAs 15 = .ok (.iload 4, 2) := by decide +kernel
theorem dX7_readAs_17 : decode cX7_readAs 17 = .ok (.ishr, 1) := by decide +kernel
theorem dX7_readAs_18 : decode cX7_readAs 18 = .ok (.iconst 1, 1) := by decide +kernel
theorem dX7_readAs_19 : decode cX7_readAs 19 = .ok (.iand, 1) := by decide +kernel
theorem dX7_readAs_20 : decode cX7_readAs 20 = .ok (.iconst 1, 1) := by decide +kernel
theorem dX7_readAs_21 : decode cX7_readAs 21 = .ok (.if_icmp .ne 13, 3) := by decide +kernel
theorem dX7_readAs_24 : decode cX7_readAs 24 = .ok (.aload_n 0, 1) := by decide +kernel
theorem dX7_readAs_25 : decode cX7_readAs 25 = .ok (.getfield 35, 3) := by decide +kernel
theorem dX7_readAs_28 : decode cX7_readAs 28 = .ok (.bipush 30, 2) := by decide +kernel
theorem dX7_readAs_30 : decode cX7_readAs 30 = .ok (.iaload, 1) := by decide +kernel
theorem dX7_readAs_31 : decode cX7_readAs 31 = .ok (.goto 13, 3) := by decide +kernel
theorem dX7_readAs_34 : decode cX7_readAs 34 = .ok (.bipush 10, 2) := by decide +kernel
theorem dX7_readAs_36 : decode cX7_readAs 36 = .ok (.aload_n 0, 1) := by decide +kernel
theorem dX7_readAs_37 : decode cX7_readAs 37 = .ok (.getfield 35, 3) := by decide +kernel
theorem dX7_readAs_40 : decode cX7_readAs 40 = .ok (.bipush 30, 2) := by decide +kernel
theorem dX7_readAs_42 : decode cX7_readAs 42 = .ok (.iaload, 1) := by decide +kernel
theorem dX7_readAs_43 : decode cX7_readAs 43 = .ok (.isub, 1) := by decide +kernel
theorem dX7_readAs_44 : decode cX7_readAs 44 = .ok (.imul, 1) := by decide +kernel
theorem dX7_readAs_45 : decode cX7_readAs 45 = .ok (.istore_n 3, 1) := by decide +kernel
theorem dX7_readAs_46 : decode cX7_readAs 46 = .ok (.iinc 4 1, 3) := by decide +kernel
theorem dX7_readAs_49 : decode cX7_readAs 49 = .ok (.goto (-44), 3) := by decide +kernel
theorem dX7_readAs_52 : decode cX7_readAs 52 = .ok (.iload_n 3, 1) := by decide +kernel
theorem dX7_readAs_53 : decode cX7_readAs 53 = .ok (.ireturn, 1) := by decide +kernel
theorem dX7_reads_0 : decode cX7_reads 0 = .ok (.iload_n 1, 1) := by decide +kernel
theorem dX7_reads_1 : decode cX7_reads 1 = .ok (.invokestatic 148, 3) := by decide +kernel
theorem dX7_reads_4 : decode cX7_reads 4 = .ok (.ifCond .eq 19, 3) := by decide +kernel
theorem dX7_reads_7 : decode cX7_reads 7 = .ok (.iload_n 2, 1) := by decide +kernel
theorem dX7_reads_8 : decode cX7_reads 8 = .ok (.invokestatic 148, 3) := by decide +kernel
theorem dX7_reads_11 : decode cX7_reads 11 = .ok (.ifCond .eq 12, 3) := by decide +kernel
theorem dX7_reads_14 : decode cX7_reads 14 = .ok (.aload_n 0, 1) := by decide +kernel
theorem dX7_reads_15 : decode cX7_reads 15 = .ok (.iload_n 1, 1) := by decide +kernel
theorem dX7_reads_16 : decode cX7_reads 16 = .ok (.iload_n 2, 1) := by decide +kernel
theorem dX7_reads_17 : decode cX7_reads 17 = .ok (.invokevirtual 151, 3) := by decide +kernel
theorem dX7_reads_20 : decode cX7_reads 20 = .ok (.goto 4, 3) := by decide +kernel
theorem dX7_reads_23 : decode cX7_reads 23 = .ok (.iconst (-1), 1) := by decide +kernel
theorem dX7_reads_24 : decode cX7_reads 24 = .ok (.ireturn, 1) := by decide +kernel
theorem dX7_meant_0 : decode cX7_meant 0 = .ok (.iconst 0, 1) := by decide +kernel
theorem dX7_meant_1 : decode cX7_meant 1 = .ok (.istore_n 2, 1) := by decide +kernel
theorem dX7_meant_2 : decode cX7_meant 2 = .ok (.iload_n 2, 1) := by decide +kernel
theorem dX7_meant_3 : decode cX7_meant 3 = .ok (.aload_n 0, 1) := by decide +kernel
theorem dX7_meant_4 : decode cX7_meant 4 = .ok (.getfield 20, 3) := by decide +kernel
theorem dX7_meant_7 : decode cX7_meant 7 = .ok (.iconst 0, 1) := by decide +kernel
theorem dX7_meant_8 : decode cX7_meant 8 = .ok (.iaload, 1) := by decide +kernel
theorem dX7_meant_9 : decode cX7_meant 9 = .ok (.if_icmp .ge 26, 3) := by decide +kernel
theorem dX7_meant_12 : decode cX7_meant 12 = .ok (.aload_n 0, 1) := by decide +kernel
theorem dX7_meant_13 : decode cX7_meant 13 = .ok (.getfield 26, 3) := by decide +kernel
theorem dX7_meant_16 : decode cX7_meant 16 = .ok (.iload_n 2, 1) := by decide +kernel
theorem dX7_meant_17 : decode cX7_meant 17 = .ok (.iaload, 1) := by decide +kernel
theorem dX7_meant_18 : decode cX7_meant 18 = .ok (.iload_n 1, 1) := by decide +kernel
theorem dX7_meant_19 : decode cX7_meant 19 = .ok (.if_icmp .ne 10, 3) := by decide +kernel
theorem dX7_meant_22 : decode cX7_meant 22 = .ok (.aload_n 0, 1) := by decide +kernel
theorem dX7_meant_23 : decode cX7_meant 23 = .ok (.getfield 29, 3) := by decide +kernel
theorem dX7_meant_26 : decode cX7_meant 26 = .ok (.iload_n 2, 1) := by decide +kernel
theorem dX7_meant_27 : decode cX7_meant 27 = .ok (.iaload, 1) := by decide +kernel
theorem dX7_meant_28 : decode cX7_meant 28 = .ok (.ireturn, 1) := by decide +kernel
theorem dX7_meant_29 : decode cX7_meant 29 = .ok (.iinc 2 1, 3) := by decide +kernel
theorem dX7_meant_32 : decode cX7_meant 32 = .ok (.goto (-30), 3) := by decide +kernel
theorem dX7_meant_35 : decode cX7_meant 35 = .ok (.bipush (-9), 2) := by decide +kernel
theorem dX7_meant_37 : decode cX7_meant 37 = .ok (.ireturn, 1) := by decide +kernel
theorem dX7_means_0 : decode cX7_means 0 = .ok (.iload_n 1, 1) := by decide +kernel
theorem dX7_means_1 : decode cX7_means 1 = .ok (.invokestatic 148, 3) := by decide +kernel
theorem dX7_means_4 : decode cX7_means 4 = .ok (.ifCond .eq 11, 3) := by decide +kernel
theorem dX7_means_7 : decode cX7_means 7 = .ok (.aload_n 0, 1) := by decide +kernel
theorem dX7_means_8 : decode cX7_means 8 = .ok (.iload_n 1, 1) := by decide +kernel
theorem dX7_means_9 : decode cX7_means 9 = .ok (.invokevirtual 154, 3) := by decide +kernel
theorem dX7_means_12 : decode cX7_means 12 = .ok (.goto 4, 3) := by decide +kernel
theorem dX7_means_15 : decode cX7_means 15 = .ok (.iconst (-1), 1) := by decide +kernel
theorem dX7_means_16 : decode cX7_means 16 = .ok (.ireturn, 1) := by decide +kernel
theorem dX7_leastOf_0 : decode cX7_leastOf 0 = .ok (.iconst 0, 1) := by decide +kernel
theorem dX7_leastOf_1 : decode cX7_leastOf 1 = .ok (.istore_n 2, 1) := by decide +kernel
theorem dX7_leastOf_2 : decode cX7_leastOf 2 = .ok (.iload_n 2, 1) := by decide +kernel
theorem dX7_leastOf_3 : decode cX7_leastOf 3 = .ok (.aload_n 0, 1) := by decide +kernel
theorem dX7_leastOf_4 : decode cX7_leastOf 4 = .ok (.getfield 20, 3) := by decide +kernel
theorem dX7_leastOf_7 : decode cX7_leastOf 7 = .ok (.iconst 0, 1) := by decide +kernel
theorem dX7_leastOf_8 : decode cX7_leastOf 8 = .ok (.iaload, 1) := by decide +kernel
theorem dX7_leastOf_9 : decode cX7_leastOf 9 = .ok (.if_icmp .ge 21, 3) := by decide +kernel
theorem dX7_leastOf_12 : decode cX7_leastOf 12 = .ok (.aload_n 0, 1) := by decide +kernel
theorem dX7_leastOf_13 : decode cX7_leastOf 13 = .ok (.getfield 29, 3) := by decide +kernel
theorem dX7_leastOf_16 : decode cX7_leastOf 16 = .ok (.iload_n 2, 1) := by decide +kernel
theorem dX7_leastOf_17 : decode cX7_leastOf 17 = .ok (.iaload, 1) := by decide +kernel
theorem dX7_leastOf_18 : decode cX7_leastOf 18 = .ok (.iload_n 1, 1) := by decide +kernel
theorem dX7_leastOf_19 : decode cX7_leastOf 19 = .ok (.if_icmp .ne 5, 3) := by decide +kernel
theorem dX7_leastOf_22 : decode cX7_leastOf 22 = .ok (.iload_n 2, 1) := by decide +kernel
theorem dX7_leastOf_23 : decode cX7_leastOf 23 = .ok (.ireturn, 1) := by decide +kernel
theorem dX7_leastOf_24 : decode cX7_leastOf 24 = .ok (.iinc 2 1, 3) := by decide +kernel
theorem dX7_leastOf_27 : decode cX7_leastOf 27 = .ok (.goto (-25), 3) := by decide +kernel
theorem dX7_leastOf_30 : decode cX7_leastOf 30 = .ok (.bipush (-9), 2) := by decide +kernel
theorem dX7_leastOf_32 : decode cX7_leastOf 32 = .ok (.ireturn, 1) := by decide +kernel
theorem dX7_common_0 : decode cX7_common 0 = .ok (.lload_n 0, 1) := by decide +kernel
theorem dX7_common_1 : decode cX7_common 1 = .ok (.lstore 4, 2) := by decide +kernel
theorem dX7_common_3 : decode cX7_common 3 = .ok (.lload_n 2, 1) := by decide +kernel
theorem dX7_common_4 : decode cX7_common 4 = .ok (.lstore 6, 2) := by decide +kernel
theorem dX7_common_6 : decode cX7_common 6 = .ok (.lload 6, 2) := by decide +kernel
theorem dX7_common_8 : decode cX7_common 8 = .ok (.lconst 0, 1) := by decide +kernel
theorem dX7_common_9 : decode cX7_common 9 = .ok (.lcmp, 1) := by decide +kernel
theorem dX7_common_10 : decode cX7_common 10 = .ok (.ifCond .eq 21, 3) := by decide +kernel
theorem dX7_common_13 : decode cX7_common 13 = .ok (.lload 4, 2) := by decide +kernel
theorem dX7_common_15 : decode cX7_common 15 = .ok (.lload 6, 2) := by decide +kernel
theorem dX7_common_17 : decode cX7_common 17 = .ok (.lrem, 1) := by decide +kernel
theorem dX7_common_18 : decode cX7_common 18 = .ok (.lstore 8, 2) := by decide +kernel
theorem dX7_common_20 : decode cX7_common 20 = .ok (.lload 6, 2) := by decide +kernel
theorem dX7_common_22 : decode cX7_common 22 = .ok (.lstore 4, 2) := by decide +kernel
theorem dX7_common_24 : decode cX7_common 24 = .ok (.lload 8, 2) := by decide +kernel
theorem dX7_common_26 : decode cX7_common 26 = .ok (.lstore 6, 2) := by decide +kernel
theorem dX7_common_28 : decode cX7_common 28 = .ok (.goto (-22), 3) := by decide +kernel
theorem dX7_common_31 : decode cX7_common 31 = .ok (.lload 4, 2) := by decide +kernel
theorem dX7_common_33 : decode cX7_common 33 = .ok (.lreturn, 1) := by decide +kernel
theorem dX7_chain_0 : decode cX7_chain 0 = .ok (.iload_n 1, 1) := by decide +kernel
theorem dX7_chain_1 : decode cX7_chain 1 = .ok (.iconst 0, 1) := by decide +kernel
theorem dX7_chain_2 : decode cX7_chain 2 = .ok (.bipush 7, 2) := by decide +kernel
theorem dX7_chain_4 : decode cX7_chain 4 = .ok (.invokestatic 61, 3) := by decide +kernel
theorem dX7_chain_7 : decode cX7_chain 7 = .ok (.ifCond .eq 21, 3) := by decide +kernel
theorem dX7_chain_10 : decode cX7_chain 10 = .ok (.iload_n 2, 1) := by decide +kernel
theorem dX7_chain_11 : decode cX7_chain 11 = .ok (.iconst 1, 1) := by decide +kernel
theorem dX7_chain_12 : decode cX7_chain 12 = .ok (.iconst 4, 1) := by decide +kernel
theorem dX7_chain_13 : decode cX7_chain 13 = .ok (.invokestatic 61, 3) := by decide +kernel
theorem dX7_chain_16 : decode cX7_chain 16 = .ok (.ifCond .eq 12, 3) := by decide +kernel
theorem dX7_chain_19 : decode cX7_chain 19 = .ok (.iload_n 3, 1) := by decide +kernel
theorem dX7_chain_20 : decode cX7_chain 20 = .ok (.iconst 0, 1) := by decide +kernel
theorem dX7_chain_21 : decode cX7_chain 21 = .ok (.iconst 1, 1) := by decide +kernel
theorem dX7_chain_22 : decode cX7_chain 22 = .ok (.invokestatic 61, 3) := by decide +kernel
theorem dX7_chain_25 : decode cX7_chain 25 = .ok (.ifCond .ne 7, 3) := by decide +kernel
theorem dX7_chain_28 : decode cX7_chain 28 = .ok (.ldc2_w 157, 3) := by decide +kernel
theorem dX7_chain_31 : decode cX7_chain 31 = .ok (.lreturn, 1) := by decide +kernel
theorem dX7_chain_32 : decode cX7_chain 32 = .ok (.aload_n 0, 1) := by decide +kernel
theorem dX7_chain_33 : decode cX7_chain 33 = .ok (.iload_n 1, 1) := by decide +kernel
theorem dX7_chain_34 : decode cX7_chain 34 = .ok (.invokevirtual 159, 3) := by decide +kernel
theorem dX7_chain_37 : decode cX7_chain 37 = .ok (.bipush (-9), 2) := by decide +kernel
theorem dX7_chain_39 : decode cX7_chain 39 = .ok (.if_icmp .ne 6, 3) := by decide +kernel
theorem dX7_chain_42 : decode cX7_chain 42 = .ok (.iload_n 3, 1) := by decide +kernel
theorem dX7_chain_43 : decode cX7_chain 43 = .ok (.i2l, 1) := by decide +kernel
theorem dX7_chain_44 : decode cX7_chain 44 = .ok (.lreturn, 1) := by decide +kernel
theorem dX7_chain_45 : decode cX7_chain 45 = .ok (.lconst 1, 1) := by decide +kernel
theorem dX7_chain_46 : decode cX7_chain 46 = .ok (.lstore 4, 2) := by decide +kernel
theorem dX7_chain_48 : decode cX7_chain 48 = .ok (.iconst 0, 1) := by decide +kernel
theorem dX7_chain_49 : decode cX7_chain 49 = .ok (.istore 6, 2) := by decide +kernel
theorem dX7_chain_51 : decode cX7_chain 51 = .ok (.iload 6, 2) := by decide +kernel
theorem dX7_chain_53 : decode cX7_chain 53 = .ok (.bipush 8, 2) := by decide +kernel
theorem dX7_chain_55 : decode cX7_chain 55 = .ok (.if_icmp .ge 27, 3) := by decide +kernel
theorem dX7_chain_58 : decode cX7_chain 58 = .ok (.aload_n 0, 1) := by decide +kernel
theorem dX7_chain_59 : decode cX7_chain 59 = .ok (.getfield 51, 3) := by decide +kernel
theorem dX7_chain_62 : decode cX7_chain 62 = .ok (.iload 6, 2) := by decide +kernel
theorem dX7_chain_64 : decode cX7_chain 64 = .ok (.iload 6, 2) := by decide +kernel
theorem dX7_chain_66 : decode cX7_chain 66 = .ok (.iload_n 1, 1) := by decide +kernel
theorem dX7_chain_67 : decode cX7_chain 67 = .ok (.if_icmp .ne 7, 3) := by decide +kernel
theorem dX7_chain_70 : decode cX7_chain 70 = .ok (.lconst 1, 1) := by decide +kernel
theorem dX7_chain_71 : decode cX7_chain 71 = .ok (.goto 4, 3) := by decide +kernel
theorem dX7_chain_74 : decode cX7_chain 74 = .ok (.lconst 0, 1) := by decide +kernel
theorem dX7_chain_75 : decode cX7_chain 75 = .ok (.lastore, 1) := by decide +kernel
theorem dX7_chain_76 : decode cX7_chain 76 = .ok (.iinc 6 1, 3) := by decide +kernel
theorem dX7_chain_79 : decode cX7_chain 79 = .ok (.goto (-28), 3) := by decide +kernel
theorem dX7_chain_82 : decode cX7_chain 82 = .ok (.iconst 0, 1) := by decide +kernel
theorem dX7_chain_83 : decode cX7_chain 83 = .ok (.istore 6, 2) := by decide +kernel
theorem dX7_chain_85 : decode cX7_chain 85 = .ok (.iload 6, 2) := by decide +kernel
theorem dX7_chain_87 : decode cX7_chain 87 = .ok (.iload_n 2, 1) := by decide +kernel
theorem dX7_chain_88 : decode cX7_chain 88 = .ok (.if_icmp .ge 166, 3) := by decide +kernel
theorem dX7_chain_91 : decode cX7_chain 91 = .ok (.lload 4, 2) := by decide +kernel
theorem dX7_chain_93 : decode cX7_chain 93 = .ok (.ldc2_w 162, 3) := by decide +kernel
theorem dX7_chain_96 : decode cX7_chain 96 = .ok (.lmul, 1) := by decide +kernel
theorem dX7_chain_97 : decode cX7_chain 97 = .ok (.lstore 4, 2) := by decide +kernel
theorem dX7_chain_99 : decode cX7_chain 99 = .ok (.iconst 0, 1) := by decide +kernel
theorem dX7_chain_100 : decode cX7_chain 100 = .ok (.istore 7, 2) := by decide +kernel
theorem dX7_chain_102 : decode cX7_chain 102 = .ok (.iload 7, 2) := by decide +kernel
theorem dX7_chain_104 : decode cX7_chain 104 = .ok (.bipush 8, 2) := by decide +kernel
theorem dX7_chain_106 : decode cX7_chain 106 = .ok (.if_icmp .ge 17, 3) := by decide +kernel
theorem dX7_chain_109 : decode cX7_chain 109 = .ok (.aload_n 0, 1) := by decide +kernel
theorem dX7_chain_110 : decode cX7_chain 110 = .ok (.getfield 55, 3) := by decide +kernel
theorem dX7_chain_113 : decode cX7_chain 113 = .ok (.iload 7, 2) := by decide +kernel
theorem dX7_chain_115 : decode cX7_chain 115 = .ok (.lconst 0, 1) := by decide +kernel
theorem dX7_chain_116 : decode cX7_chain 116 = .ok (.lastore, 1) := by decide +kernel
theorem dX7_chain_117 : decode cX7_chain 117 = .ok (.iinc 7 1, 3) := by decide +kernel
theorem dX7_chain_120 : decode cX7_chain 120 = .ok (.goto (-18), 3) := by decide +kernel
theorem dX7_chain_123 : decode cX7_chain 123 = .ok (.iconst 0, 1) := by decide +kernel
theorem dX7_chain_124 : decode cX7_chain 124 = .ok (.istore 7, 2) := by decide +kernel
theorem dX7_chain_126 : decode cX7_chain 126 = .ok (.iload 7, 2) := by decide +kernel
theorem dX7_chain_128 : decode cX7_chain 128 = .ok (.bipush 8, 2) := by decide +kernel
theorem dX7_chain_130 : decode cX7_chain 130 = .ok (.if_icmp .ge 88, 3) := by decide +kernel
theorem dX7_chain_133 : decode cX7_chain 133 = .ok (.iconst 0, 1) := by decide +kernel
theorem dX7_chain_134 : decode cX7_chain 134 = .ok (.istore 8, 2) := by decide +kernel
theorem dX7_chain_136 : decode cX7_chain 136 = .ok (.iload 8, 2) := by decide +kernel
theorem dX7_chain_138 : decode cX7_chain 138 = .ok (.bipush 8, 2) := by decide +kernel
theorem dX7_chain_140 : decode cX7_chain 140 = .ok (.if_icmp .ge 72, 3) := by decide +kernel
theorem dX7_chain_143 : decode cX7_chain 143 = .ok (.aload_n 0, 1) := by decide +kernel
theorem dX7_chain_144 : decode cX7_chain 144 = .ok (.getfield 51, 3) := by decide +kernel
theorem dX7_chain_147 : decode cX7_chain 147 = .ok (.iload 7, 2) := by decide +kernel
theorem dX7_chain_149 : decode cX7_chain 149 = .ok (.laload, 1) := by decide +kernel
theorem dX7_chain_150 : decode cX7_chain 150 = .ok (.lconst 0, 1) := by decide +kernel
theorem dX7_chain_151 : decode cX7_chain 151 = .ok (.lcmp, 1) := by decide +kernel
theorem dX7_chain_152 : decode cX7_chain 152 = .ok (.ifCond .le 60, 3) := by decide +kernel
theorem dX7_chain_155 : decode cX7_chain 155 = .ok (.aload_n 0, 1) := by decide +kernel
theorem dX7_chain_156 : decode cX7_chain 156 = .ok (.iload 8, 2) := by decide +kernel
theorem dX7_chain_158 : decode cX7_chain 158 = .ok (.invokevirtual 154, 3) := by decide +kernel
theorem dX7_chain_161 : decode cX7_chain 161 = .ok (.istore 9, 2) := by decide +kernel
theorem dX7_chain_163 : decode cX7_chain 163 = .ok (.iload 9, 2) := by decide +kernel
theorem dX7_chain_165 : decode cX7_chain 165 = .ok (.bipush (-9), 2) := by decide +kernel
theorem dX7_chain_167 : decode cX7_chain 167 = .ok (.if_icmp .eq 39, 3) := by decide +kernel
theorem dX7_chain_170 : decode cX7_chain 170 = .ok (.aload_n 0, 1) := by decide +kernel
theorem dX7_chain_171 : decode cX7_chain 171 = .ok (.getfield 55, 3) := by decide +kernel
theorem dX7_chain_174 : decode cX7_chain 174 = .ok (.iload 9, 2) := by decide +kernel
theorem dX7_chain_176 : decode cX7_chain 176 = .ok (.dup2, 1) := by decide +kernel
theorem dX7_chain_177 : decode cX7_chain 177 = .ok (.laload, 1) := by decide +kernel
theorem dX7_chain_178 : decode cX7_chain 178 = .ok (.aload_n 0, 1) := by decide +kernel
theorem dX7_chain_179 : decode cX7_chain 179 = .ok (.getfield 51, 3) := by decide +kernel
theorem dX7_chain_182 : decode cX7_chain 182 = .ok (.iload 7, 2) := by decide +kernel
theorem dX7_chain_184 : decode cX7_chain 184 = .ok (.laload, 1) := by decide +kernel
theorem dX7_chain_185 : decode cX7_chain 185 = .ok (.aload_n 0, 1) := by decide +kernel
theorem dX7_chain_186 : decode cX7_chain 186 = .ok (.aload_n 0, 1) := by decide +kernel
theorem dX7_chain_187 : decode cX7_chain 187 = .ok (.getfield 26, 3) := by decide +kernel
theorem dX7_chain_190 : decode cX7_chain 190 = .ok (.aload_n 0, 1) := by decide +kernel
theorem dX7_chain_191 : decode cX7_chain 191 = .ok (.iload 7, 2) := by decide +kernel
theorem dX7_chain_193 : decode cX7_chain 193 = .ok (.invokevirtual 159, 3) := by decide +kernel
theorem dX7_chain_196 : decode cX7_chain 196 = .ok (.iaload, 1) := by decide +kernel
theorem dX7_chain_197 : decode cX7_chain 197 = .ok (.iload 8, 2) := by decide +kernel
theorem dX7_chain_199 : decode cX7_chain 199 = .ok (.invokevirtual 151, 3) := by decide +kernel
theorem dX7_chain_202 : decode cX7_chain 202 = .ok (.i2l, 1) := by decide +kernel
theorem dX7_chain_203 : decode cX7_chain 203 = .ok (.lmul, 1) := by decide +kernel
theorem dX7_chain_204 : decode cX7_chain 204 = .ok (.ladd, 1) := by decide +kernel
theorem dX7_chain_205 : decode cX7_chain 205 = .ok (.lastore, 1) := by decide +kernel
theorem dX7_chain_206 : decode cX7_chain 206 = .ok (.iinc 8 1, 3) := by decide +kernel
theorem dX7_chain_209 : decode cX7_chain 209 = .ok (.goto (-73), 3) := by decide +kernel
theorem dX7_chain_212 : decode cX7_chain 212 = .ok (.iinc 7 1, 3) := by decide +kernel
theorem dX7_chain_215 : decode cX7_chain 215 = .ok (.goto (-89), 3) := by decide +kernel
theorem dX7_chain_218 : decode cX7_chain 218 = .ok (.iconst 0, 1) := by decide +kernel
theorem dX7_chain_219 : decode cX7_chain 219 = .ok (.istore 7, 2) := by decide +kernel
theorem dX7_chain_221 : decode cX7_chain 221 = .ok (.iload 7, 2) := by decide +kernel
theorem dX7_chain_223 : decode cX7_chain 223 = .ok (.bipush 8, 2) := by decide +kernel
theorem dX7_chain_225 : decode cX7_chain 225 = .ok (.if_icmp .ge 23, 3) := by decide +kernel
theorem dX7_chain_228 : decode cX7_chain 228 = .ok (.aload_n 0, 1) := by decide +kernel
theorem dX7_chain_229 : decode cX7_chain 229 = .ok (.getfield 51, 3) := by decide +kernel
theorem dX7_chain_232 : decode cX7_chain 232 = .ok (.iload 7, 2) := by decide +kernel
theorem dX7_chain_234 : decode cX7_chain 234 = .ok (.aload_n 0, 1) := by decide +kernel
theorem dX7_chain_235 : decode cX7_chain 235 = .ok (.getfield 55, 3) := by decide +kernel
theorem dX7_chain_238 : decode cX7_chain 238 = .ok (.iload 7, 2) := by decide +kernel
theorem dX7_chain_240 : decode cX7_chain 240 = .ok (.laload, 1) := by decide +kernel
theorem dX7_chain_241 : decode cX7_chain 241 = .ok (.lastore, 1) := by decide +kernel
theorem dX7_chain_242 : decode cX7_chain 242 = .ok (.iinc 7 1, 3) := by decide +kernel
theorem dX7_chain_245 : decode cX7_chain 245 = .ok (.goto (-24), 3) := by decide +kernel
theorem dX7_chain_248 : decode cX7_chain 248 = .ok (.iinc 6 1, 3) := by decide +kernel
theorem dX7_chain_251 : decode cX7_chain 251 = .ok (.goto (-166), 3) := by decide +kernel
theorem dX7_chain_254 : decode cX7_chain 254 = .ok (.aload_n 0, 1) := by decide +kernel
theorem dX7_chain_255 : decode cX7_chain 255 = .ok (.getfield 51, 3) := by decide +kernel
theorem dX7_chain_258 : decode cX7_chain 258 = .ok (.iload_n 1, 1) := by decide +kernel
theorem dX7_chain_259 : decode cX7_chain 259 = .ok (.laload, 1) := by decide +kernel
theorem dX7_chain_260 : decode cX7_chain 260 = .ok (.lload 4, 2) := by decide +kernel
theorem dX7_chain_262 : decode cX7_chain 262 = .ok (.invokestatic 164, 3) := by decide +kernel
theorem dX7_chain_265 : decode cX7_chain 265 = .ok (.lstore 6, 2) := by decide +kernel
theorem dX7_chain_267 : decode cX7_chain 267 = .ok (.iload_n 3, 1) := by decide +kernel
theorem dX7_chain_268 : decode cX7_chain 268 = .ok (.ifCond .ne 15, 3) := by decide +kernel
theorem dX7_chain_271 : decode cX7_chain 271 = .ok (.aload_n 0, 1) := by decide +kernel
theorem dX7_chain_272 : decode cX7_chain 272 = .ok (.getfield 51, 3) := by decide +kernel
theorem dX7_chain_275 : decode cX7_chain 275 = .ok (.iload_n 1, 1) := by decide +kernel
theorem dX7_chain_276 : decode cX7_chain 276 = .ok (.laload, 1) := by decide +kernel
theorem dX7_chain_277 : decode cX7_chain 277 = .ok (.lload 6, 2) := by decide +kernel
theorem dX7_chain_279 : decode cX7_chain 279 = .ok (.ldiv, 1) := by decide +kernel
theorem dX7_chain_280 : decode cX7_chain 280 = .ok (.goto 8, 3) := by decide +kernel
theorem dX7_chain_283 : decode cX7_chain 283 = .ok (.lload 4, 2) := by decide +kernel
theorem dX7_chain_285 : decode cX7_chain 285 = .ok (.lload 6, 2) := by decide +kernel
theorem dX7_chain_287 : decode cX7_chain 287 = .ok (.ldiv, 1) := by decide +kernel
end
section
theorem dX7_chain_288 : decode cX7_chain 288 = .ok (.lreturn, 1) := by decide +kernel
theorem dX7_who_0 : decode cX7_who 0 = .ok (.iload_n 1, 1) := by decide +kernel
theorem dX7_who_1 : decode cX7_who 1 = .ok (.invokestatic 148, 3) := by decide +kernel
theorem dX7_who_4 : decode cX7_who 4 = .ok (.ifCond .eq 20, 3) := by decide +kernel
theorem dX7_who_7 : decode cX7_who 7 = .ok (.aload_n 0, 1) := by decide +kernel
theorem dX7_who_8 : decode cX7_who 8 = .ok (.iload_n 2, 1) := by decide +kernel
theorem dX7_who_9 : decode cX7_who 9 = .ok (.invokevirtual 111, 3) := by decide +kernel
theorem dX7_who_12 : decode cX7_who 12 = .ok (.ifCond .eq 12, 3) := by decide +kernel
theorem dX7_who_15 : decode cX7_who 15 = .ok (.iload_n 3, 1) := by decide +kernel
theorem dX7_who_16 : decode cX7_who 16 = .ok (.iconst 0, 1) := by decide +kernel
theorem dX7_who_17 : decode cX7_who 17 = .ok (.iconst 1, 1) := by decide +kernel
theorem dX7_who_18 : decode cX7_who 18 = .ok (.invokestatic 61, 3) := by decide +kernel
theorem dX7_who_21 : decode cX7_who 21 = .ok (.ifCond .ne 5, 3) := by decide +kernel
theorem dX7_who_24 : decode cX7_who 24 = .ok (.iconst (-1), 1) := by decide +kernel
theorem dX7_who_25 : decode cX7_who 25 = .ok (.ireturn, 1) := by decide +kernel
theorem dX7_who_26 : decode cX7_who 26 = .ok (.iconst 0, 1) := by decide +kernel
theorem dX7_who_27 : decode cX7_who 27 = .ok (.istore 4, 2) := by decide +kernel
theorem dX7_who_29 : decode cX7_who 29 = .ok (.iconst 0, 1) := by decide +kernel
theorem dX7_who_30 : decode cX7_who 30 = .ok (.istore 5, 2) := by decide +kernel
theorem dX7_who_32 : decode cX7_who 32 = .ok (.iconst 0, 1) := by decide +kernel
theorem dX7_who_33 : decode cX7_who 33 = .ok (.istore 6, 2) := by decide +kernel
theorem dX7_who_35 : decode cX7_who 35 = .ok (.iload 6, 2) := by decide +kernel
theorem dX7_who_37 : decode cX7_who 37 = .ok (.aload_n 0, 1) := by decide +kernel
theorem dX7_who_38 : decode cX7_who 38 = .ok (.getfield 13, 3) := by decide +kernel
theorem dX7_who_41 : decode cX7_who 41 = .ok (.iconst 0, 1) := by decide +kernel
theorem dX7_who_42 : decode cX7_who 42 = .ok (.iaload, 1) := by decide +kernel
theorem dX7_who_43 : decode cX7_who 43 = .ok (.if_icmp .ge 82, 3) := by decide +kernel
theorem dX7_who_46 : decode cX7_who 46 = .ok (.iconst 0, 1) := by decide +kernel
theorem dX7_who_47 : decode cX7_who 47 = .ok (.istore 7, 2) := by decide +kernel
theorem dX7_who_49 : decode cX7_who 49 = .ok (.iload 7, 2) := by decide +kernel
theorem dX7_who_51 : decode cX7_who 51 = .ok (.aload_n 0, 1) := by decide +kernel
theorem dX7_who_52 : decode cX7_who 52 = .ok (.getfield 20, 3) := by decide +kernel
theorem dX7_who_55 : decode cX7_who 55 = .ok (.iconst 0, 1) := by decide +kernel
theorem dX7_who_56 : decode cX7_who 56 = .ok (.iaload, 1) := by decide +kernel
theorem dX7_who_57 : decode cX7_who 57 = .ok (.if_icmp .ge 62, 3) := by decide +kernel
theorem dX7_who_60 : decode cX7_who 60 = .ok (.aload_n 0, 1) := by decide +kernel
theorem dX7_who_61 : decode cX7_who 61 = .ok (.iload 6, 2) := by decide +kernel
theorem dX7_who_63 : decode cX7_who 63 = .ok (.iload 7, 2) := by decide +kernel
theorem dX7_who_65 : decode cX7_who 65 = .ok (.invokevirtual 124, 3) := by decide +kernel
theorem dX7_who_68 : decode cX7_who 68 = .ok (.ifCond .eq 18, 3) := by decide +kernel
theorem dX7_who_71 : decode cX7_who 71 = .ok (.aload_n 0, 1) := by decide +kernel
theorem dX7_who_72 : decode cX7_who 72 = .ok (.aload_n 0, 1) := by decide +kernel
theorem dX7_who_73 : decode cX7_who 73 = .ok (.getfield 26, 3) := by decide +kernel
theorem dX7_who_76 : decode cX7_who 76 = .ok (.iload 7, 2) := by decide +kernel
theorem dX7_who_78 : decode cX7_who 78 = .ok (.iaload, 1) := by decide +kernel
theorem dX7_who_79 : decode cX7_who 79 = .ok (.iload_n 1, 1) := by decide +kernel
theorem dX7_who_80 : decode cX7_who 80 = .ok (.invokevirtual 151, 3) := by decide +kernel
theorem dX7_who_83 : decode cX7_who 83 = .ok (.goto 4, 3) := by decide +kernel
theorem dX7_who_86 : decode cX7_who 86 = .ok (.iconst 0, 1) := by decide +kernel
theorem dX7_who_87 : decode cX7_who 87 = .ok (.istore 8, 2) := by decide +kernel
theorem dX7_who_89 : decode cX7_who 89 = .ok (.iload 4, 2) := by decide +kernel
theorem dX7_who_91 : decode cX7_who 91 = .ok (.iload 6, 2) := by decide +kernel
theorem dX7_who_93 : decode cX7_who 93 = .ok (.iload_n 2, 1) := by decide +kernel
theorem dX7_who_94 : decode cX7_who 94 = .ok (.if_icmp .ne 8, 3) := by decide +kernel
theorem dX7_who_97 : decode cX7_who 97 = .ok (.iload 8, 2) := by decide +kernel
theorem dX7_who_99 : decode cX7_who 99 = .ok (.goto 4, 3) := by decide +kernel
theorem dX7_who_102 : decode cX7_who 102 = .ok (.iconst 0, 1) := by decide +kernel
theorem dX7_who_103 : decode cX7_who 103 = .ok (.iadd, 1) := by decide +kernel
theorem dX7_who_104 : decode cX7_who 104 = .ok (.istore 4, 2) := by decide +kernel
theorem dX7_who_106 : decode cX7_who 106 = .ok (.iload 5, 2) := by decide +kernel
theorem dX7_who_108 : decode cX7_who 108 = .ok (.iload 8, 2) := by decide +kernel
theorem dX7_who_110 : decode cX7_who 110 = .ok (.iadd, 1) := by decide +kernel
theorem dX7_who_111 : decode cX7_who 111 = .ok (.istore 5, 2) := by decide +kernel
theorem dX7_who_113 : decode cX7_who 113 = .ok (.iinc 7 1, 3) := by decide +kernel
theorem dX7_who_116 : decode cX7_who 116 = .ok (.goto (-67), 3) := by decide +kernel
theorem dX7_who_119 : decode cX7_who 119 = .ok (.iinc 6 1, 3) := by decide +kernel
theorem dX7_who_122 : decode cX7_who 122 = .ok (.goto (-87), 3) := by decide +kernel
theorem dX7_who_125 : decode cX7_who 125 = .ok (.iload 5, 2) := by decide +kernel
theorem dX7_who_127 : decode cX7_who 127 = .ok (.ifCond .ne 6, 3) := by decide +kernel
theorem dX7_who_130 : decode cX7_who 130 = .ok (.bipush (-2), 2) := by decide +kernel
theorem dX7_who_132 : decode cX7_who 132 = .ok (.ireturn, 1) := by decide +kernel
theorem dX7_who_133 : decode cX7_who 133 = .ok (.iload 4, 2) := by decide +kernel
theorem dX7_who_135 : decode cX7_who 135 = .ok (.i2l, 1) := by decide +kernel
theorem dX7_who_136 : decode cX7_who 136 = .ok (.iload 5, 2) := by decide +kernel
theorem dX7_who_138 : decode cX7_who 138 = .ok (.i2l, 1) := by decide +kernel
theorem dX7_who_139 : decode cX7_who 139 = .ok (.invokestatic 164, 3) := by decide +kernel
theorem dX7_who_142 : decode cX7_who 142 = .ok (.l2i, 1) := by decide +kernel
theorem dX7_who_143 : decode cX7_who 143 = .ok (.istore 6, 2) := by decide +kernel
theorem dX7_who_145 : decode cX7_who 145 = .ok (.iload_n 3, 1) := by decide +kernel
theorem dX7_who_146 : decode cX7_who 146 = .ok (.ifCond .ne 11, 3) := by decide +kernel
theorem dX7_who_149 : decode cX7_who 149 = .ok (.iload 4, 2) := by decide +kernel
theorem dX7_who_151 : decode cX7_who 151 = .ok (.iload 6, 2) := by decide +kernel
theorem dX7_who_153 : decode cX7_who 153 = .ok (.idiv, 1) := by decide +kernel
theorem dX7_who_154 : decode cX7_who 154 = .ok (.goto 8, 3) := by decide +kernel
theorem dX7_who_157 : decode cX7_who 157 = .ok (.iload 5, 2) := by decide +kernel
theorem dX7_who_159 : decode cX7_who 159 = .ok (.iload 6, 2) := by decide +kernel
theorem dX7_who_161 : decode cX7_who 161 = .ok (.idiv, 1) := by decide +kernel
theorem dX7_who_162 : decode cX7_who 162 = .ok (.ireturn, 1) := by decide +kernel
theorem dX7_nextSupper_0 : decode cX7_nextSupper 0 = .ok (.bipush (-9), 2) := by decide +kernel
theorem dX7_nextSupper_2 : decode cX7_nextSupper 2 = .ok (.istore_n 1, 1) := by decide +kernel
theorem dX7_nextSupper_3 : decode cX7_nextSupper 3 = .ok (.iconst 0, 1) := by decide +kernel
theorem dX7_nextSupper_4 : decode cX7_nextSupper 4 = .ok (.istore_n 2, 1) := by decide +kernel
theorem dX7_nextSupper_5 : decode cX7_nextSupper 5 = .ok (.iload_n 2, 1) := by decide +kernel
theorem dX7_nextSupper_6 : decode cX7_nextSupper 6 = .ok (.aload_n 0, 1) := by decide +kernel
theorem dX7_nextSupper_7 : decode cX7_nextSupper 7 = .ok (.getfield 20, 3) := by decide +kernel
theorem dX7_nextSupper_10 : decode cX7_nextSupper 10 = .ok (.iconst 0, 1) := by decide +kernel
theorem dX7_nextSupper_11 : decode cX7_nextSupper 11 = .ok (.iaload, 1) := by decide +kernel
theorem dX7_nextSupper_12 : decode cX7_nextSupper 12 = .ok (.if_icmp .ge 90, 3) := by decide +kernel
theorem dX7_nextSupper_15 : decode cX7_nextSupper 15 = .ok (.iload_n 1, 1) := by decide +kernel
theorem dX7_nextSupper_16 : decode cX7_nextSupper 16 = .ok (.bipush (-9), 2) := by decide +kernel
theorem dX7_nextSupper_18 : decode cX7_nextSupper 18 = .ok (.if_icmp .eq 16, 3) := by decide +kernel
theorem dX7_nextSupper_21 : decode cX7_nextSupper 21 = .ok (.aload_n 0, 1) := by decide +kernel
theorem dX7_nextSupper_22 : decode cX7_nextSupper 22 = .ok (.iload_n 2, 1) := by decide +kernel
theorem dX7_nextSupper_23 : decode cX7_nextSupper 23 = .ok (.invokevirtual 121, 3) := by decide +kernel
theorem dX7_nextSupper_26 : decode cX7_nextSupper 26 = .ok (.aload_n 0, 1) := by decide +kernel
theorem dX7_nextSupper_27 : decode cX7_nextSupper 27 = .ok (.iload_n 1, 1) := by decide +kernel
theorem dX7_nextSupper_28 : decode cX7_nextSupper 28 = .ok (.invokevirtual 121, 3) := by decide +kernel
theorem dX7_nextSupper_31 : decode cX7_nextSupper 31 = .ok (.if_icmp .ge 7, 3) := by decide +kernel
theorem dX7_nextSupper_34 : decode cX7_nextSupper 34 = .ok (.iconst 1, 1) := by decide +kernel
theorem dX7_nextSupper_35 : decode cX7_nextSupper 35 = .ok (.goto 4, 3) := by decide +kernel
theorem dX7_nextSupper_38 : decode cX7_nextSupper 38 = .ok (.iconst 0, 1) := by decide +kernel
theorem dX7_nextSupper_39 : decode cX7_nextSupper 39 = .ok (.istore_n 3, 1) := by decide +kernel
theorem dX7_nextSupper_40 : decode cX7_nextSupper 40 = .ok (.iconst 0, 1) := by decide +kernel
theorem dX7_nextSupper_41 : decode cX7_nextSupper 41 = .ok (.istore 4, 2) := by decide +kernel
theorem dX7_nextSupper_43 : decode cX7_nextSupper 43 = .ok (.iload 4, 2) := by decide +kernel
theorem dX7_nextSupper_45 : decode cX7_nextSupper 45 = .ok (.iconst 5, 1) := by decide +kernel
theorem dX7_nextSupper_46 : decode cX7_nextSupper 46 = .ok (.if_icmp .ge 40, 3) := by decide +kernel
theorem dX7_nextSupper_49 : decode cX7_nextSupper 49 = .ok (.iload_n 3, 1) := by decide +kernel
theorem dX7_nextSupper_50 : decode cX7_nextSupper 50 = .ok (.ifCond .eq 28, 3) := by decide +kernel
theorem dX7_nextSupper_53 : decode cX7_nextSupper 53 = .ok (.aload_n 0, 1) := by decide +kernel
theorem dX7_nextSupper_54 : decode cX7_nextSupper 54 = .ok (.getfield 58, 3) := by decide +kernel
theorem dX7_nextSupper_57 : decode cX7_nextSupper 57 = .ok (.iload 4, 2) := by decide +kernel
theorem dX7_nextSupper_59 : decode cX7_nextSupper 59 = .ok (.iaload, 1) := by decide +kernel
theorem dX7_nextSupper_60 : decode cX7_nextSupper 60 = .ok (.aload_n 0, 1) := by decide +kernel
theorem dX7_nextSupper_61 : decode cX7_nextSupper 61 = .ok (.getfield 23, 3) := by decide +kernel
theorem dX7_nextSupper_64 : decode cX7_nextSupper 64 = .ok (.iconst 5, 1) := by decide +kernel
theorem dX7_nextSupper_65 : decode cX7_nextSupper 65 = .ok (.iload_n 2, 1) := by decide +kernel
theorem dX7_nextSupper_66 : decode cX7_nextSupper 66 = .ok (.imul, 1) := by decide +kernel
theorem dX7_nextSupper_67 : decode cX7_nextSupper 67 = .ok (.iload 4, 2) := by decide +kernel
theorem dX7_nextSupper_69 : decode cX7_nextSupper 69 = .ok (.iadd, 1) := by decide +kernel
theorem dX7_nextSupper_70 : decode cX7_nextSupper 70 = .ok (.iaload, 1) := by decide +kernel
theorem dX7_nextSupper_71 : decode cX7_nextSupper 71 = .ok (.if_icmp .lt 7, 3) := by decide +kernel
theorem dX7_nextSupper_74 : decode cX7_nextSupper 74 = .ok (.iconst 1, 1) := by decide +kernel
theorem dX7_nextSupper_75 : decode cX7_nextSupper 75 = .ok (.goto 4, 3) := by decide +kernel
theorem dX7_nextSupper_78 : decode cX7_nextSupper 78 = .ok (.iconst 0, 1) := by decide +kernel
theorem dX7_nextSupper_79 : decode cX7_nextSupper 79 = .ok (.istore_n 3, 1) := by decide +kernel
theorem dX7_nextSupper_80 : decode cX7_nextSupper 80 = .ok (.iinc 4 1, 3) := by decide +kernel
theorem dX7_nextSupper_83 : decode cX7_nextSupper 83 = .ok (.goto (-40), 3) := by decide +kernel
theorem dX7_nextSupper_86 : decode cX7_nextSupper 86 = .ok (.iload_n 3, 1) := by decide +kernel
theorem dX7_nextSupper_87 : decode cX7_nextSupper 87 = .ok (.ifCond .eq 7, 3) := by decide +kernel
theorem dX7_nextSupper_90 : decode cX7_nextSupper 90 = .ok (.iload_n 2, 1) := by decide +kernel
theorem dX7_nextSupper_91 : decode cX7_nextSupper 91 = .ok (.goto 4, 3) := by decide +kernel
theorem dX7_nextSupper_94 : decode cX7_nextSupper 94 = .ok (.iload_n 1, 1) := by decide +kernel
theorem dX7_nextSupper_95 : decode cX7_nextSupper 95 = .ok (.istore_n 1, 1) := by decide +kernel
theorem dX7_nextSupper_96 : decode cX7_nextSupper 96 = .ok (.iinc 2 1, 3) := by decide +kernel
theorem dX7_nextSupper_99 : decode cX7_nextSupper 99 = .ok (.goto (-94), 3) := by decide +kernel
theorem dX7_nextSupper_102 : decode cX7_nextSupper 102 = .ok (.iload_n 1, 1) := by decide +kernel
theorem dX7_nextSupper_103 : decode cX7_nextSupper 103 = .ok (.ireturn, 1) := by decide +kernel
theorem dX7_days_0 : decode cX7_days 0 = .ok (.aload_n 0, 1) := by decide +kernel
theorem dX7_days_1 : decode cX7_days 1 = .ok (.iload_n 1, 1) := by decide +kernel
theorem dX7_days_2 : decode cX7_days 2 = .ok (.invokevirtual 111, 3) := by decide +kernel
theorem dX7_days_5 : decode cX7_days 5 = .ok (.ifCond .ne 5, 3) := by decide +kernel
theorem dX7_days_8 : decode cX7_days 8 = .ok (.iconst (-1), 1) := by decide +kernel
theorem dX7_days_9 : decode cX7_days 9 = .ok (.ireturn, 1) := by decide +kernel
theorem dX7_days_10 : decode cX7_days 10 = .ok (.iconst 0, 1) := by decide +kernel
theorem dX7_days_11 : decode cX7_days 11 = .ok (.istore_n 2, 1) := by decide +kernel
theorem dX7_days_12 : decode cX7_days 12 = .ok (.iload_n 2, 1) := by decide +kernel
theorem dX7_days_13 : decode cX7_days 13 = .ok (.iconst 5, 1) := by decide +kernel
theorem dX7_days_14 : decode cX7_days 14 = .ok (.if_icmp .ge 25, 3) := by decide +kernel
theorem dX7_days_17 : decode cX7_days 17 = .ok (.aload_n 0, 1) := by decide +kernel
theorem dX7_days_18 : decode cX7_days 18 = .ok (.getfield 58, 3) := by decide +kernel
theorem dX7_days_21 : decode cX7_days 21 = .ok (.iload_n 2, 1) := by decide +kernel
theorem dX7_days_22 : decode cX7_days 22 = .ok (.aload_n 0, 1) := by decide +kernel
theorem dX7_days_23 : decode cX7_days 23 = .ok (.getfield 35, 3) := by decide +kernel
theorem dX7_days_26 : decode cX7_days 26 = .ok (.iconst 5, 1) := by decide +kernel
theorem dX7_days_27 : decode cX7_days 27 = .ok (.iload_n 1, 1) := by decide +kernel
theorem dX7_days_28 : decode cX7_days 28 = .ok (.imul, 1) := by decide +kernel
theorem dX7_days_29 : decode cX7_days 29 = .ok (.iload_n 2, 1) := by decide +kernel
theorem dX7_days_30 : decode cX7_days 30 = .ok (.iadd, 1) := by decide +kernel
theorem dX7_days_31 : decode cX7_days 31 = .ok (.iaload, 1) := by decide +kernel
theorem dX7_days_32 : decode cX7_days 32 = .ok (.iastore, 1) := by decide +kernel
theorem dX7_days_33 : decode cX7_days 33 = .ok (.iinc 2 1, 3) := by decide +kernel
theorem dX7_days_36 : decode cX7_days 36 = .ok (.goto (-24), 3) := by decide +kernel
theorem dX7_days_39 : decode cX7_days 39 = .ok (.iconst 0, 1) := by decide +kernel
theorem dX7_days_40 : decode cX7_days 40 = .ok (.istore_n 2, 1) := by decide +kernel
theorem dX7_days_41 : decode cX7_days 41 = .ok (.aload_n 0, 1) := by decide +kernel
theorem dX7_days_42 : decode cX7_days 42 = .ok (.invokevirtual 168, 3) := by decide +kernel
theorem dX7_days_45 : decode cX7_days 45 = .ok (.istore_n 3, 1) := by decide +kernel
theorem dX7_days_46 : decode cX7_days 46 = .ok (.iload_n 3, 1) := by decide +kernel
theorem dX7_days_47 : decode cX7_days 47 = .ok (.bipush (-9), 2) := by decide +kernel
theorem dX7_days_49 : decode cX7_days 49 = .ok (.if_icmp .eq 56, 3) := by decide +kernel
theorem dX7_days_52 : decode cX7_days 52 = .ok (.iload_n 2, 1) := by decide +kernel
theorem dX7_days_53 : decode cX7_days 53 = .ok (.bipush 30, 2) := by decide +kernel
theorem dX7_days_55 : decode cX7_days 55 = .ok (.if_icmp .ge 50, 3) := by decide +kernel
theorem dX7_days_58 : decode cX7_days 58 = .ok (.iconst 0, 1) := by decide +kernel
theorem dX7_days_59 : decode cX7_days 59 = .ok (.istore 4, 2) := by decide +kernel
theorem dX7_days_61 : decode cX7_days 61 = .ok (.iload 4, 2) := by decide +kernel
theorem dX7_days_63 : decode cX7_days 63 = .ok (.iconst 5, 1) := by decide +kernel
theorem dX7_days_64 : decode cX7_days 64 = .ok (.if_icmp .ge 30, 3) := by decide +kernel
theorem dX7_days_67 : decode cX7_days 67 = .ok (.aload_n 0, 1) := by decide +kernel
theorem dX7_days_68 : decode cX7_days 68 = .ok (.getfield 58, 3) := by decide +kernel
theorem dX7_days_71 : decode cX7_days 71 = .ok (.iload 4, 2) := by decide +kernel
theorem dX7_days_73 : decode cX7_days 73 = .ok (.dup2, 1) := by decide +kernel
theorem dX7_days_74 : decode cX7_days 74 = .ok (.iaload, 1) := by decide +kernel
theorem dX7_days_75 : decode cX7_days 75 = .ok (.aload_n 0, 1) := by decide +kernel
theorem dX7_days_76 : decode cX7_days 76 = .ok (.getfield 23, 3) := by decide +kernel
theorem dX7_days_79 : decode cX7_days 79 = .ok (.iconst 5, 1) := by decide +kernel
theorem dX7_days_80 : decode cX7_days 80 = .ok (.iload_n 3, 1) := by decide +kernel
theorem dX7_days_81 : decode cX7_days 81 = .ok (.imul, 1) := by decide +kernel
theorem dX7_days_82 : decode cX7_days 82 = .ok (.iload 4, 2) := by decide +kernel
theorem dX7_days_84 : decode cX7_days 84 = .ok (.iadd, 1) := by decide +kernel
theorem dX7_days_85 : decode cX7_days 85 = .ok (.iaload, 1) := by decide +kernel
theorem dX7_days_86 : decode cX7_days 86 = .ok (.isub, 1) := by decide +kernel
theorem dX7_days_87 : decode cX7_days 87 = .ok (.iastore, 1) := by decide +kernel
theorem dX7_days_88 : decode cX7_days 88 = .ok (.iinc 4 1, 3) := by decide +kernel
theorem dX7_days_91 : decode cX7_days 91 = .ok (.goto (-30), 3) := by decide +kernel
theorem dX7_days_94 : decode cX7_days 94 = .ok (.iinc 2 1, 3) := by decide +kernel
theorem dX7_days_97 : decode cX7_days 97 = .ok (.aload_n 0, 1) := by decide +kernel
theorem dX7_days_98 : decode cX7_days 98 = .ok (.invokevirtual 168, 3) := by decide +kernel
theorem dX7_days_101 : decode cX7_days 101 = .ok (.istore_n 3, 1) := by decide +kernel
theorem dX7_days_102 : decode cX7_days 102 = .ok (.goto (-56), 3) := by decide +kernel
theorem dX7_days_105 : decode cX7_days 105 = .ok (.iload_n 2, 1) := by decide +kernel
theorem dX7_days_106 : decode cX7_days 106 = .ok (.ireturn, 1) := by decide +kernel
theorem dX7_saidBy_0 : decode cX7_saidBy 0 = .ok (.iconst 0, 1) := by decide +kernel
theorem dX7_saidBy_1 : decode cX7_saidBy 1 = .ok (.istore 4, 2) := by decide +kernel
theorem dX7_saidBy_3 : decode cX7_saidBy 3 = .ok (.iconst 0, 1) := by decide +kernel
theorem dX7_saidBy_4 : decode cX7_saidBy 4 = .ok (.istore 5, 2) := by decide +kernel
theorem dX7_saidBy_6 : decode cX7_saidBy 6 = .ok (.iload 5, 2) := by decide +kernel
theorem dX7_saidBy_8 : decode cX7_saidBy 8 = .ok (.aload_n 0, 1) := by decide +kernel
theorem dX7_saidBy_9 : decode cX7_saidBy 9 = .ok (.getfield 20, 3) := by decide +kernel
theorem dX7_saidBy_12 : decode cX7_saidBy 12 = .ok (.iconst 0, 1) := by decide +kernel
theorem dX7_saidBy_13 : decode cX7_saidBy 13 = .ok (.iaload, 1) := by decide +kernel
theorem dX7_saidBy_14 : decode cX7_saidBy 14 = .ok (.if_icmp .ge 117, 3) := by decide +kernel
theorem dX7_saidBy_17 : decode cX7_saidBy 17 = .ok (.iload_n 1, 1) := by decide +kernel
theorem dX7_saidBy_18 : decode cX7_saidBy 18 = .ok (.iload 5, 2) := by decide +kernel
theorem dX7_saidBy_20 : decode cX7_saidBy 20 = .ok (.ishr, 1) := by decide +kernel
theorem dX7_saidBy_21 : decode cX7_saidBy 21 = .ok (.iconst 1, 1) := by decide +kernel
theorem dX7_saidBy_22 : decode cX7_saidBy 22 = .ok (.iand, 1) := by decide +kernel
theorem dX7_saidBy_23 : decode cX7_saidBy 23 = .ok (.iconst 1, 1) := by decide +kernel
theorem dX7_saidBy_24 : decode cX7_saidBy 24 = .ok (.if_icmp .ne 101, 3) := by decide +kernel
theorem dX7_saidBy_27 : decode cX7_saidBy 27 = .ok (.iload_n 2, 1) := by decide +kernel
theorem dX7_saidBy_28 : decode cX7_saidBy 28 = .ok (.aload_n 0, 1) := by decide +kernel
theorem dX7_saidBy_29 : decode cX7_saidBy 29 = .ok (.getfield 29, 3) := by decide +kernel
theorem dX7_saidBy_32 : decode cX7_saidBy 32 = .ok (.iload 5, 2) := by decide +kernel
theorem dX7_saidBy_34 : decode cX7_saidBy 34 = .ok (.iaload, 1) := by decide +kernel
theorem dX7_saidBy_35 : decode cX7_saidBy 35 = .ok (.ishr, 1) := by decide +kernel
theorem dX7_saidBy_36 : decode cX7_saidBy 36 = .ok (.iconst 1, 1) := by decide +kernel
theorem dX7_saidBy_37 : decode cX7_saidBy 37 = .ok (.iand, 1) := by decide +kernel
theorem dX7_saidBy_38 : decode cX7_saidBy 38 = .ok (.ifCond .eq 19, 3) := by decide +kernel
theorem dX7_saidBy_41 : decode cX7_saidBy 41 = .ok (.iload 4, 2) := by decide +kernel
theorem dX7_saidBy_43 : decode cX7_saidBy 43 = .ok (.aload_n 0, 1) := by decide +kernel
theorem dX7_saidBy_44 : decode cX7_saidBy 44 = .ok (.getfield 29, 3) := by decide +kernel
theorem dX7_saidBy_47 : decode cX7_saidBy 47 = .ok (.iload 5, 2) := by decide +kernel
theorem dX7_saidBy_49 : decode cX7_saidBy 49 = .ok (.iaload, 1) := by decide +kernel
theorem dX7_saidBy_50 : decode cX7_saidBy 50 = .ok (.ishr, 1) := by decide +kernel
theorem dX7_saidBy_51 : decode cX7_saidBy 51 = .ok (.iconst 1, 1) := by decide +kernel
theorem dX7_saidBy_52 : decode cX7_saidBy 52 = .ok (.iand, 1) := by decide +kernel
theorem dX7_saidBy_53 : decode cX7_saidBy 53 = .ok (.iconst 1, 1) := by decide +kernel
theorem dX7_saidBy_54 : decode cX7_saidBy 54 = .ok (.if_icmp .ne 6, 3) := by decide +kernel
theorem dX7_saidBy_57 : decode cX7_saidBy 57 = .ok (.bipush (-9), 2) := by decide +kernel
theorem dX7_saidBy_59 : decode cX7_saidBy 59 = .ok (.ireturn, 1) := by decide +kernel
theorem dX7_saidBy_60 : decode cX7_saidBy 60 = .ok (.iload 4, 2) := by decide +kernel
theorem dX7_saidBy_62 : decode cX7_saidBy 62 = .ok (.iconst 1, 1) := by decide +kernel
theorem dX7_saidBy_63 : decode cX7_saidBy 63 = .ok (.aload_n 0, 1) := by decide +kernel
theorem dX7_saidBy_64 : decode cX7_saidBy 64 = .ok (.getfield 29, 3) := by decide +kernel
theorem dX7_saidBy_67 : decode cX7_saidBy 67 = .ok (.iload 5, 2) := by decide +kernel
theorem dX7_saidBy_69 : decode cX7_saidBy 69 = .ok (.iaload, 1) := by decide +kernel
theorem dX7_saidBy_70 : decode cX7_saidBy 70 = .ok (.ishl, 1) := by decide +kernel
theorem dX7_saidBy_71 : decode cX7_saidBy 71 = .ok (.ior, 1) := by decide +kernel
theorem dX7_saidBy_72 : decode cX7_saidBy 72 = .ok (.istore 4, 2) := by decide +kernel
theorem dX7_saidBy_74 : decode cX7_saidBy 74 = .ok (.iconst 0, 1) := by decide +kernel
theorem dX7_saidBy_75 : decode cX7_saidBy 75 = .ok (.istore 6, 2) := by decide +kernel
theorem dX7_saidBy_77 : decode cX7_saidBy 77 = .ok (.iload 6, 2) := by decide +kernel
theorem dX7_saidBy_79 : decode cX7_saidBy 79 = .ok (.iload 5, 2) := by decide +kernel
theorem dX7_saidBy_81 : decode cX7_saidBy 81 = .ok (.if_icmp .ge 44, 3) := by decide +kernel
theorem dX7_saidBy_84 : decode cX7_saidBy 84 = .ok (.iload_n 1, 1) := by decide +kernel
theorem dX7_saidBy_85 : decode cX7_saidBy 85 = .ok (.iload 6, 2) := by decide +kernel
theorem dX7_saidBy_87 : decode cX7_saidBy 87 = .ok (.ishr, 1) := by decide +kernel
theorem dX7_saidBy_88 : decode cX7_saidBy 88 = .ok (.iconst 1, 1) := by decide +kernel
theorem dX7_saidBy_89 : decode cX7_saidBy 89 = .ok (.iand, 1) := by decide +kernel
theorem dX7_saidBy_90 : decode cX7_saidBy 90 = .ok (.iconst 1, 1) := by decide +kernel
theorem dX7_saidBy_91 : decode cX7_saidBy 91 = .ok (.if_icmp .ne 28, 3) := by decide +kernel
theorem dX7_saidBy_94 : decode cX7_saidBy 94 = .ok (.aload_n 0, 1) := by decide +kernel
theorem dX7_saidBy_95 : decode cX7_saidBy 95 = .ok (.getfield 26, 3) := by decide +kernel
theorem dX7_saidBy_98 : decode cX7_saidBy 98 = .ok (.iload 5, 2) := by decide +kernel
theorem dX7_saidBy_100 : decode cX7_saidBy 100 = .ok (.iaload, 1) := by decide +kernel
theorem dX7_saidBy_101 : decode cX7_saidBy 101 = .ok (.aload_n 0, 1) := by decide +kernel
theorem dX7_saidBy_102 : decode cX7_saidBy 102 = .ok (.getfield 26, 3) := by decide +kernel
theorem dX7_saidBy_105 : decode cX7_saidBy 105 = .ok (.iload 6, 2) := by decide +kernel
theorem dX7_saidBy_107 : decode cX7_saidBy 107 = .ok (.iaload, 1) := by decide +kernel
theorem dX7_saidBy_108 : decode cX7_saidBy 108 = .ok (.ixor, 1) := by decide +kernel
theorem dX7_saidBy_109 : decode cX7_saidBy 109 = .ok (.invokestatic 145, 3) := by decide +kernel
theorem dX7_saidBy_112 : decode cX7_saidBy 112 = .ok (.iload_n 3, 1) := by decide +kernel
theorem dX7_saidBy_113 : decode cX7_saidBy 113 = .ok (.if_icmp .ge 6, 3) := by decide +kernel
theorem dX7_saidBy_116 : decode cX7_saidBy 116 = .ok (.bipush (-9), 2) := by decide +kernel
theorem dX7_saidBy_118 : decode cX7_saidBy 118 = .ok (.ireturn, 1) := by decide +kernel
theorem dX7_saidBy_119 : decode cX7_saidBy 119 = .ok (.iinc 6 1, 3) := by decide +kernel
theorem dX7_saidBy_122 : decode cX7_saidBy 122 = .ok (.goto (-45), 3) := by decide +kernel
theorem dX7_saidBy_125 : decode cX7_saidBy 125 = .ok (.iinc 5 1, 3) := by decide +kernel
theorem dX7_saidBy_128 : decode cX7_saidBy 128 = .ok (.goto (-122), 3) := by decide +kernel
theorem dX7_saidBy_131 : decode cX7_saidBy 131 = .ok (.iload 4, 2) := by decide +kernel
theorem dX7_saidBy_133 : decode cX7_saidBy 133 = .ok (.ireturn, 1) := by decide +kernel
theorem dX7_code_0 : decode cX7_code 0 = .ok (.iload_n 1, 1) := by decide +kernel
theorem dX7_code_1 : decode cX7_code 1 = .ok (.iconst 0, 1) := by decide +kernel
theorem dX7_code_2 : decode cX7_code 2 = .ok (.sipush 255, 3) := by decide +kernel
theorem dX7_code_5 : decode cX7_code 5 = .ok (.invokestatic 61, 3) := by decide +kernel
theorem dX7_code_8 : decode cX7_code 8 = .ok (.ifCond .eq 21, 3) := by decide +kernel
theorem dX7_code_11 : decode cX7_code 11 = .ok (.iload_n 2, 1) := by decide +kernel
theorem dX7_code_12 : decode cX7_code 12 = .ok (.iconst 1, 1) := by decide +kernel
theorem dX7_code_13 : decode cX7_code 13 = .ok (.iconst 3, 1) := by decide +kernel
theorem dX7_code_14 : decode cX7_code 14 = .ok (.invokestatic 61, 3) := by decide +kernel
theorem dX7_code_17 : decode cX7_code 17 = .ok (.ifCond .eq 12, 3) := by decide +kernel
theorem dX7_code_20 : decode cX7_code 20 = .ok (.iload_n 3, 1) := by decide +kernel
theorem dX7_code_21 : decode cX7_code 21 = .ok (.iconst 0, 1) := by decide +kernel
theorem dX7_code_22 : decode cX7_code 22 = .ok (.iconst 1, 1) := by decide +kernel
theorem dX7_code_23 : decode cX7_code 23 = .ok (.invokestatic 61, 3) := by decide +kernel
theorem dX7_code_26 : decode cX7_code 26 = .ok (.ifCond .ne 5, 3) := by decide +kernel
theorem dX7_code_29 : decode cX7_code 29 = .ok (.iconst (-1), 1) := by decide +kernel
theorem dX7_code_30 : decode cX7_code 30 = .ok (.ireturn, 1) := by decide +kernel
theorem dX7_code_31 : decode cX7_code 31 = .ok (.bipush (-9), 2) := by decide +kernel
theorem dX7_code_33 : decode cX7_code 33 = .ok (.istore 4, 2) := by decide +kernel
theorem dX7_code_35 : decode cX7_code 35 = .ok (.iconst 0, 1) := by decide +kernel
theorem dX7_code_36 : decode cX7_code 36 = .ok (.istore 5, 2) := by decide +kernel
theorem dX7_code_38 : decode cX7_code 38 = .ok (.iconst 1, 1) := by decide +kernel
theorem dX7_code_39 : decode cX7_code 39 = .ok (.aload_n 0, 1) := by decide +kernel
theorem dX7_code_40 : decode cX7_code 40 = .ok (.getfield 20, 3) := by decide +kernel
theorem dX7_code_43 : decode cX7_code 43 = .ok (.iconst 0, 1) := by decide +kernel
theorem dX7_code_44 : decode cX7_code 44 = .ok (.iaload, 1) := by decide +kernel
theorem dX7_code_45 : decode cX7_code 45 = .ok (.ishl, 1) := by decide +kernel
theorem dX7_code_46 : decode cX7_code 46 = .ok (.iconst 1, 1) := by decide +kernel
theorem dX7_code_47 : decode cX7_code 47 = .ok (.isub, 1) := by decide +kernel
theorem dX7_code_48 : decode cX7_code 48 = .ok (.istore 6, 2) := by decide +kernel
theorem dX7_code_50 : decode cX7_code 50 = .ok (.iload 6, 2) := by decide +kernel
theorem dX7_code_52 : decode cX7_code 52 = .ok (.ifCond .lt 63, 3) := by decide +kernel
theorem dX7_code_55 : decode cX7_code 55 = .ok (.aload_n 0, 1) := by decide +kernel
theorem dX7_code_56 : decode cX7_code 56 = .ok (.iload 6, 2) := by decide +kernel
theorem dX7_code_58 : decode cX7_code 58 = .ok (.iload_n 1, 1) := by decide +kernel
theorem dX7_code_59 : decode cX7_code 59 = .ok (.iload_n 2, 1) := by decide +kernel
theorem dX7_code_60 : decode cX7_code 60 = .ok (.invokevirtual 171, 3) := by decide +kernel
theorem dX7_code_63 : decode cX7_code 63 = .ok (.istore 7, 2) := by decide +kernel
theorem dX7_code_65 : decode cX7_code 65 = .ok (.iload 7, 2) := by decide +kernel
theorem dX7_code_67 : decode cX7_code 67 = .ok (.iload_n 1, 1) := by decide +kernel
theorem dX7_code_68 : decode cX7_code 68 = .ok (.if_icmp .ne 8, 3) := by decide +kernel
theorem dX7_code_71 : decode cX7_code 71 = .ok (.iload 6, 2) := by decide +kernel
theorem dX7_code_73 : decode cX7_code 73 = .ok (.goto 5, 3) := by decide +kernel
theorem dX7_code_76 : decode cX7_code 76 = .ok (.iload 4, 2) := by decide +kernel
theorem dX7_code_78 : decode cX7_code 78 = .ok (.istore 4, 2) := by decide +kernel
theorem dX7_code_80 : decode cX7_code 80 = .ok (.iload 7, 2) := by decide +kernel
theorem dX7_code_82 : decode cX7_code 82 = .ok (.bipush (-9), 2) := by decide +kernel
theorem dX7_code_84 : decode cX7_code 84 = .ok (.if_icmp .eq 21, 3) := by decide +kernel
theorem dX7_code_87 : decode cX7_code 87 = .ok (.iload 6, 2) := by decide +kernel
theorem dX7_code_89 : decode cX7_code 89 = .ok (.invokestatic 145, 3) := by decide +kernel
theorem dX7_code_92 : decode cX7_code 92 = .ok (.iload 5, 2) := by decide +kernel
theorem dX7_code_94 : decode cX7_code 94 = .ok (.if_icmp .le 11, 3) := by decide +kernel
theorem dX7_code_97 : decode cX7_code 97 = .ok (.iload 6, 2) := by decide +kernel
theorem dX7_code_99 : decode cX7_code 99 = .ok (.invokestatic 145, 3) := by decide +kernel
theorem dX7_code_102 : decode cX7_code 102 = .ok (.goto 5, 3) := by decide +kernel
theorem dX7_code_105 : decode cX7_code 105 = .ok (.iload 5, 2) := by decide +kernel
theorem dX7_code_107 : decode cX7_code 107 = .ok (.istore 5, 2) := by decide +kernel
theorem dX7_code_109 : decode cX7_code 109 = .ok (.iinc 6 (-1), 3) := by decide +kernel
theorem dX7_code_112 : decode cX7_code 112 = .ok (.goto (-62), 3) := by decide +kernel
theorem dX7_code_115 : decode cX7_code 115 = .ok (.iload_n 3, 1) := by decide +kernel
theorem dX7_code_116 : decode cX7_code 116 = .ok (.ifCond .ne 8, 3) := by decide +kernel
theorem dX7_code_119 : decode cX7_code 119 = .ok (.iload 4, 2) := by decide +kernel
theorem dX7_code_121 : decode cX7_code 121 = .ok (.goto 5, 3) := by decide +kernel
theorem dX7_code_124 : decode cX7_code 124 = .ok (.iload 5, 2) := by decide +kernel
theorem dX7_code_126 : decode cX7_code 126 = .ok (.ireturn, 1) := by decide +kernel
theorem dX7_feast_0 : decode cX7_feast 0 = .ok (.iload_n 1, 1) := by decide +kernel
theorem dX7_feast_1 : decode cX7_feast 1 = .ok (.iconst 1, 1) := by decide +kernel
theorem dX7_feast_2 : decode cX7_feast 2 = .ok (.aload_n 0, 1) := by decide +kernel
theorem dX7_feast_3 : decode cX7_feast 3 = .ok (.getfield 20, 3) := by decide +kernel
theorem dX7_feast_6 : decode cX7_feast 6 = .ok (.iconst 0, 1) := by decide +kernel
theorem dX7_feast_7 : decode cX7_feast 7 = .ok (.iaload, 1) := by decide +kernel
theorem dX7_feast_8 : decode cX7_feast 8 = .ok (.ishl, 1) := by decide +kernel
theorem dX7_feast_9 : decode cX7_feast 9 = .ok (.iconst 1, 1) := by decide +kernel
theorem dX7_feast_10 : decode cX7_feast 10 = .ok (.isub, 1) := by decide +kernel
theorem dX7_feast_11 : decode cX7_feast 11 = .ok (.iand, 1) := by decide +kernel
theorem dX7_feast_12 : decode cX7_feast 12 = .ok (.istore_n 3, 1) := by decide +kernel
theorem dX7_feast_13 : decode cX7_feast 13 = .ok (.iload_n 3, 1) := by decide +kernel
theorem dX7_feast_14 : decode cX7_feast 14 = .ok (.ifCond .eq 12, 3) := by decide +kernel
theorem dX7_feast_17 : decode cX7_feast 17 = .ok (.iload_n 2, 1) := by decide +kernel
theorem dX7_feast_18 : decode cX7_feast 18 = .ok (.iconst 0, 1) := by decide +kernel
theorem dX7_feast_19 : decode cX7_feast 19 = .ok (.iconst 2, 1) := by decide +kernel
theorem dX7_feast_20 : decode cX7_feast 20 = .ok (.invokestatic 61, 3) := by decide +kernel
theorem dX7_feast_23 : decode cX7_feast 23 = .ok (.ifCond .ne 5, 3) := by decide +kernel
theorem dX7_feast_26 : decode cX7_feast 26 = .ok (.iconst (-1), 1) := by decide +kernel
theorem dX7_feast_27 : decode cX7_feast 27 = .ok (.ireturn, 1) := by decide +kernel
theorem dX7_feast_28 : decode cX7_feast 28 = .ok (.iconst 0, 1) := by decide +kernel
theorem dX7_feast_29 : decode cX7_feast 29 = .ok (.istore 4, 2) := by decide +kernel
theorem dX7_feast_31 : decode cX7_feast 31 = .ok (.iconst 0, 1) := by decide +kernel
theorem dX7_feast_32 : decode cX7_feast 32 = .ok (.istore 5, 2) := by decide +kernel
theorem dX7_feast_34 : decode cX7_feast 34 = .ok (.iconst 0, 1) := by decide +kernel
theorem dX7_feast_35 : decode cX7_feast 35 = .ok (.istore 6, 2) := by decide +kernel
theorem dX7_feast_37 : decode cX7_feast 37 = .ok (.iload 6, 2) := by decide +kernel
theorem dX7_feast_39 : decode cX7_feast 39 = .ok (.aload_n 0, 1) := by decide +kernel
theorem dX7_feast_40 : decode cX7_feast 40 = .ok (.getfield 20, 3) := by decide +kernel
theorem dX7_feast_43 : decode cX7_feast 43 = .ok (.iconst 0, 1) := by decide +kernel
theorem dX7_feast_44 : decode cX7_feast 44 = .ok (.iaload, 1) := by decide +kernel
theorem dX7_feast_45 : decode cX7_feast 45 = .ok (.if_icmp .ge 63, 3) := by decide +kernel
theorem dX7_feast_48 : decode cX7_feast 48 = .ok (.iload 4, 2) := by decide +kernel
theorem dX7_feast_50 : decode cX7_feast 50 = .ok (.iload_n 3, 1) := by decide +kernel
theorem dX7_feast_51 : decode cX7_feast 51 = .ok (.iload 6, 2) := by decide +kernel
theorem dX7_feast_53 : decode cX7_feast 53 = .ok (.ishr, 1) := by decide +kernel
theorem dX7_feast_54 : decode cX7_feast 54 = .ok (.iconst 1, 1) := by decide +kernel
theorem dX7_feast_55 : decode cX7_feast 55 = .ok (.iand, 1) := by decide +kernel
theorem dX7_feast_56 : decode cX7_feast 56 = .ok (.iconst 1, 1) := by decide +kernel
theorem dX7_feast_57 : decode cX7_feast 57 = .ok (.if_icmp .ne 13, 3) := by decide +kernel
theorem dX7_feast_60 : decode cX7_feast 60 = .ok (.aload_n 0, 1) := by decide +kernel
theorem dX7_feast_61 : decode cX7_feast 61 = .ok (.getfield 26, 3) := by decide +kernel
theorem dX7_feast_64 : decode cX7_feast 64 = .ok (.iload 6, 2) := by decide +kernel
theorem dX7_feast_66 : decode cX7_feast 66 = .ok (.iaload, 1) := by decide +kernel
theorem dX7_feast_67 : decode cX7_feast 67 = .ok (.goto 4, 3) := by decide +kernel
theorem dX7_feast_70 : decode cX7_feast 70 = .ok (.iconst 0, 1) := by decide +kernel
theorem dX7_feast_71 : decode cX7_feast 71 = .ok (.ior, 1) := by decide +kernel
theorem dX7_feast_72 : decode cX7_feast 72 = .ok (.istore 4, 2) := by decide +kernel
theorem dX7_feast_74 : decode cX7_feast 74 = .ok (.iload 5, 2) := by decide +kernel
theorem dX7_feast_76 : decode cX7_feast 76 = .ok (.iload_n 3, 1) := by decide +kernel
theorem dX7_feast_77 : decode cX7_feast 77 = .ok (.iload 6, 2) := by decide +kernel
theorem dX7_feast_79 : decode cX7_feast 79 = .ok (.ishr, 1) := by decide +kernel
theorem dX7_feast_80 : decode cX7_feast 80 = .ok (.iconst 1, 1) := by decide +kernel
theorem dX7_feast_81 : decode cX7_feast 81 = .ok (.iand, 1) := by decide +kernel
theorem dX7_feast_82 : decode cX7_feast 82 = .ok (.iconst 1, 1) := by decide +kernel
theorem dX7_feast_83 : decode cX7_feast 83 = .ok (.if_icmp .ne 15, 3) := by decide +kernel
theorem dX7_feast_86 : decode cX7_feast 86 = .ok (.iconst 1, 1) := by decide +kernel
theorem dX7_feast_87 : decode cX7_feast 87 = .ok (.aload_n 0, 1) := by decide +kernel
theorem dX7_feast_88 : decode cX7_feast 88 = .ok (.getfield 29, 3) := by decide +kernel
theorem dX7_feast_91 : decode cX7_feast 91 = .ok (.iload 6, 2) := by decide +kernel
theorem dX7_feast_93 : decode cX7_feast 93 = .ok (.iaload, 1) := by decide +kernel
theorem dX7_feast_94 : decode cX7_feast 94 = .ok (.ishl, 1) := by decide +kernel
theorem dX7_feast_95 : decode cX7_feast 95 = .ok (.goto 4, 3) := by decide +kernel
theorem dX7_feast_98 : decode cX7_feast 98 = .ok (.iconst 0, 1) := by decide +kernel
theorem dX7_feast_99 : decode cX7_feast 99 = .ok (.ior, 1) := by decide +kernel
theorem dX7_feast_100 : decode cX7_feast 100 = .ok (.istore 5, 2) := by decide +kernel
theorem dX7_feast_102 : decode cX7_feast 102 = .ok (.iinc 6 1, 3) := by decide +kernel
theorem dX7_feast_105 : decode cX7_feast 105 = .ok (.goto (-68), 3) := by decide +kernel
theorem dX7_feast_108 : decode cX7_feast 108 = .ok (.aload_n 0, 1) := by decide +kernel
theorem dX7_feast_109 : decode cX7_feast 109 = .ok (.iload 4, 2) := by decide +kernel
theorem dX7_feast_111 : decode cX7_feast 111 = .ok (.invokevirtual 154, 3) := by decide +kernel
theorem dX7_feast_114 : decode cX7_feast 114 = .ok (.istore 6, 2) := by decide +kernel
theorem dX7_feast_116 : decode cX7_feast 116 = .ok (.iload_n 2, 1) := by decide +kernel
theorem dX7_feast_117 : decode cX7_feast 117 = .ok (.ifCond .ne 8, 3) := by decide +kernel
theorem dX7_feast_120 : decode cX7_feast 120 = .ok (.iload 4, 2) := by decide +kernel
theorem dX7_feast_122 : decode cX7_feast 122 = .ok (.goto 29, 3) := by decide +kernel
theorem dX7_feast_125 : decode cX7_feast 125 = .ok (.iload_n 2, 1) := by decide +kernel
theorem dX7_feast_126 : decode cX7_feast 126 = .ok (.iconst 1, 1) := by decide +kernel
theorem dX7_feast_127 : decode cX7_feast 127 = .ok (.if_icmp .eq 10, 3) := by decide +kernel
theorem dX7_feast_130 : decode cX7_feast 130 = .ok (.iload 6, 2) := by decide +kernel
theorem dX7_feast_132 : decode cX7_feast 132 = .ok (.bipush (-9), 2) := by decide +kernel
theorem dX7_feast_134 : decode cX7_feast 134 = .ok (.if_icmp .ne 8, 3) := by decide +kernel
theorem dX7_feast_137 : decode cX7_feast 137 = .ok (.iload 6, 2) := by decide +kernel
theorem dX7_feast_139 : decode cX7_feast 139 = .ok (.goto 12, 3) := by decide +kernel
theorem dX7_feast_142 : decode cX7_feast 142 = .ok (.iconst 1, 1) := by decide +kernel
theorem dX7_feast_143 : decode cX7_feast 143 = .ok (.iload 5, 2) := by decide +kernel
theorem dX7_feast_145 : decode cX7_feast 145 = .ok (.iload 6, 2) := by decide +kernel
theorem dX7_feast_147 : decode cX7_feast 147 = .ok (.ishr, 1) := by decide +kernel
theorem dX7_feast_148 : decode cX7_feast 148 = .ok (.iconst 1, 1) := by decide +kernel
theorem dX7_feast_149 : decode cX7_feast 149 = .ok (.iand, 1) := by decide +kernel
theorem dX7_feast_150 : decode cX7_feast 150 = .ok (.isub, 1) := by decide +kernel
theorem dX7_feast_151 : decode cX7_feast 151 = .ok (.ireturn, 1) := by decide +kernel
theorem dX7_silent_0 : decode cX7_silent 0 = .ok (.iload_n 1, 1) := by decide +kernel
end
section
theorem dX7_silent_1 : decode cX7_silent 1 = .ok (.iconst 1, 1) := by decide +kernel
theorem dX7_silent_2 : decode cX7_silent 2 = .ok (.bipush 20, 2) := by decide +kernel
theorem dX7_silent_4 : decode cX7_silent 4 = .ok (.invokestatic 61, 3) := by decide +kernel
theorem dX7_silent_7 : decode cX7_silent 7 = .ok (.ifCond .ne 5, 3) := by decide +kernel
theorem dX7_silent_10 : decode cX7_silent 10 = .ok (.iconst (-1), 1) := by decide +kernel
theorem dX7_silent_11 : decode cX7_silent 11 = .ok (.ireturn, 1) := by decide +kernel
theorem dX7_silent_12 : decode cX7_silent 12 = .ok (.iconst 1, 1) := by decide +kernel
theorem dX7_silent_13 : decode cX7_silent 13 = .ok (.aload_n 0, 1) := by decide +kernel
theorem dX7_silent_14 : decode cX7_silent 14 = .ok (.getfield 13, 3) := by decide +kernel
theorem dX7_silent_17 : decode cX7_silent 17 = .ok (.iconst 0, 1) := by decide +kernel
theorem dX7_silent_18 : decode cX7_silent 18 = .ok (.iaload, 1) := by decide +kernel
theorem dX7_silent_19 : decode cX7_silent 19 = .ok (.ishl, 1) := by decide +kernel
theorem dX7_silent_20 : decode cX7_silent 20 = .ok (.iconst 1, 1) := by decide +kernel
theorem dX7_silent_21 : decode cX7_silent 21 = .ok (.isub, 1) := by decide +kernel
theorem dX7_silent_22 : decode cX7_silent 22 = .ok (.istore_n 2, 1) := by decide +kernel
theorem dX7_silent_23 : decode cX7_silent 23 = .ok (.iconst 0, 1) := by decide +kernel
theorem dX7_silent_24 : decode cX7_silent 24 = .ok (.istore_n 3, 1) := by decide +kernel
theorem dX7_silent_25 : decode cX7_silent 25 = .ok (.iload_n 3, 1) := by decide +kernel
theorem dX7_silent_26 : decode cX7_silent 26 = .ok (.aload_n 0, 1) := by decide +kernel
theorem dX7_silent_27 : decode cX7_silent 27 = .ok (.getfield 35, 3) := by decide +kernel
theorem dX7_silent_30 : decode cX7_silent 30 = .ok (.bipush 32, 2) := by decide +kernel
theorem dX7_silent_32 : decode cX7_silent 32 = .ok (.iaload, 1) := by decide +kernel
theorem dX7_silent_33 : decode cX7_silent 33 = .ok (.if_icmp .ge 44, 3) := by decide +kernel
theorem dX7_silent_36 : decode cX7_silent 36 = .ok (.iload_n 2, 1) := by decide +kernel
theorem dX7_silent_37 : decode cX7_silent 37 = .ok (.iload_n 3, 1) := by decide +kernel
theorem dX7_silent_38 : decode cX7_silent 38 = .ok (.aload_n 0, 1) := by decide +kernel
theorem dX7_silent_39 : decode cX7_silent 39 = .ok (.getfield 35, 3) := by decide +kernel
theorem dX7_silent_42 : decode cX7_silent 42 = .ok (.bipush 32, 2) := by decide +kernel
theorem dX7_silent_44 : decode cX7_silent 44 = .ok (.iaload, 1) := by decide +kernel
theorem dX7_silent_45 : decode cX7_silent 45 = .ok (.iload_n 1, 1) := by decide +kernel
theorem dX7_silent_46 : decode cX7_silent 46 = .ok (.isub, 1) := by decide +kernel
theorem dX7_silent_47 : decode cX7_silent 47 = .ok (.if_icmp .lt 21, 3) := by decide +kernel
theorem dX7_silent_50 : decode cX7_silent 50 = .ok (.iconst 1, 1) := by decide +kernel
theorem dX7_silent_51 : decode cX7_silent 51 = .ok (.aload_n 0, 1) := by decide +kernel
theorem dX7_silent_52 : decode cX7_silent 52 = .ok (.getfield 35, 3) := by decide +kernel
theorem dX7_silent_55 : decode cX7_silent 55 = .ok (.bipush 33, 2) := by decide +kernel
theorem dX7_silent_57 : decode cX7_silent 57 = .ok (.iconst 2, 1) := by decide +kernel
theorem dX7_silent_58 : decode cX7_silent 58 = .ok (.iload_n 3, 1) := by decide +kernel
theorem dX7_silent_59 : decode cX7_silent 59 = .ok (.imul, 1) := by decide +kernel
theorem dX7_silent_60 : decode cX7_silent 60 = .ok (.iadd, 1) := by decide +kernel
theorem dX7_silent_61 : decode cX7_silent 61 = .ok (.iaload, 1) := by decide +kernel
theorem dX7_silent_62 : decode cX7_silent 62 = .ok (.ishl, 1) := by decide +kernel
theorem dX7_silent_63 : decode cX7_silent 63 = .ok (.iconst (-1), 1) := by decide +kernel
theorem dX7_silent_64 : decode cX7_silent 64 = .ok (.ixor, 1) := by decide +kernel
theorem dX7_silent_65 : decode cX7_silent 65 = .ok (.goto 4, 3) := by decide +kernel
theorem dX7_silent_68 : decode cX7_silent 68 = .ok (.iconst (-1), 1) := by decide +kernel
theorem dX7_silent_69 : decode cX7_silent 69 = .ok (.iand, 1) := by decide +kernel
theorem dX7_silent_70 : decode cX7_silent 70 = .ok (.istore_n 2, 1) := by decide +kernel
theorem dX7_silent_71 : decode cX7_silent 71 = .ok (.iinc 3 1, 3) := by decide +kernel
theorem dX7_silent_74 : decode cX7_silent 74 = .ok (.goto (-49), 3) := by decide +kernel
theorem dX7_silent_77 : decode cX7_silent 77 = .ok (.iload_n 2, 1) := by decide +kernel
theorem dX7_silent_78 : decode cX7_silent 78 = .ok (.ireturn, 1) := by decide +kernel
theorem dX7_drawn_0 : decode cX7_drawn 0 = .ok (.iload_n 1, 1) := by decide +kernel
theorem dX7_drawn_1 : decode cX7_drawn 1 = .ok (.invokestatic 148, 3) := by decide +kernel
theorem dX7_drawn_4 : decode cX7_drawn 4 = .ok (.ifCond .ne 5, 3) := by decide +kernel
theorem dX7_drawn_7 : decode cX7_drawn 7 = .ok (.iconst (-1), 1) := by decide +kernel
theorem dX7_drawn_8 : decode cX7_drawn 8 = .ok (.ireturn, 1) := by decide +kernel
theorem dX7_drawn_9 : decode cX7_drawn 9 = .ok (.iload_n 1, 1) := by decide +kernel
theorem dX7_drawn_10 : decode cX7_drawn 10 = .ok (.istore_n 2, 1) := by decide +kernel
theorem dX7_drawn_11 : decode cX7_drawn 11 = .ok (.iconst 0, 1) := by decide +kernel
theorem dX7_drawn_12 : decode cX7_drawn 12 = .ok (.istore_n 3, 1) := by decide +kernel
theorem dX7_drawn_13 : decode cX7_drawn 13 = .ok (.iload_n 3, 1) := by decide +kernel
theorem dX7_drawn_14 : decode cX7_drawn 14 = .ok (.iconst 3, 1) := by decide +kernel
theorem dX7_drawn_15 : decode cX7_drawn 15 = .ok (.if_icmp .ge 63, 3) := by decide +kernel
theorem dX7_drawn_18 : decode cX7_drawn 18 = .ok (.aload_n 0, 1) := by decide +kernel
theorem dX7_drawn_19 : decode cX7_drawn 19 = .ok (.getfield 35, 3) := by decide +kernel
theorem dX7_drawn_22 : decode cX7_drawn 22 = .ok (.bipush 31, 2) := by decide +kernel
theorem dX7_drawn_24 : decode cX7_drawn 24 = .ok (.aload_n 0, 1) := by decide +kernel
theorem dX7_drawn_25 : decode cX7_drawn 25 = .ok (.getfield 35, 3) := by decide +kernel
theorem dX7_drawn_28 : decode cX7_drawn 28 = .ok (.bipush 31, 2) := by decide +kernel
theorem dX7_drawn_30 : decode cX7_drawn 30 = .ok (.iaload, 1) := by decide +kernel
theorem dX7_drawn_31 : decode cX7_drawn 31 = .ok (.ldc 175, 2) := by decide +kernel
theorem dX7_drawn_33 : decode cX7_drawn 33 = .ok (.imul, 1) := by decide +kernel
theorem dX7_drawn_34 : decode cX7_drawn 34 = .ok (.sipush 12345, 3) := by decide +kernel
theorem dX7_drawn_37 : decode cX7_drawn 37 = .ok (.iadd, 1) := by decide +kernel
theorem dX7_drawn_38 : decode cX7_drawn 38 = .ok (.iastore, 1) := by decide +kernel
theorem dX7_drawn_39 : decode cX7_drawn 39 = .ok (.iload_n 2, 1) := by decide +kernel
theorem dX7_drawn_40 : decode cX7_drawn 40 = .ok (.aload_n 0, 1) := by decide +kernel
theorem dX7_drawn_41 : decode cX7_drawn 41 = .ok (.getfield 35, 3) := by decide +kernel
theorem dX7_drawn_44 : decode cX7_drawn 44 = .ok (.bipush 31, 2) := by decide +kernel
theorem dX7_drawn_46 : decode cX7_drawn 46 = .ok (.iaload, 1) := by decide +kernel
theorem dX7_drawn_47 : decode cX7_drawn 47 = .ok (.bipush 16, 2) := by decide +kernel
theorem dX7_drawn_49 : decode cX7_drawn 49 = .ok (.iushr, 1) := by decide +kernel
theorem dX7_drawn_50 : decode cX7_drawn 50 = .ok (.bipush 10, 2) := by decide +kernel
theorem dX7_drawn_52 : decode cX7_drawn 52 = .ok (.irem, 1) := by decide +kernel
theorem dX7_drawn_53 : decode cX7_drawn 53 = .ok (.aload_n 0, 1) := by decide +kernel
theorem dX7_drawn_54 : decode cX7_drawn 54 = .ok (.getfield 35, 3) := by decide +kernel
theorem dX7_drawn_57 : decode cX7_drawn 57 = .ok (.bipush 30, 2) := by decide +kernel
theorem dX7_drawn_59 : decode cX7_drawn 59 = .ok (.iaload, 1) := by decide +kernel
theorem dX7_drawn_60 : decode cX7_drawn 60 = .ok (.if_icmp .ge 9, 3) := by decide +kernel
theorem dX7_drawn_63 : decode cX7_drawn 63 = .ok (.iconst 1, 1) := by decide +kernel
theorem dX7_drawn_64 : decode cX7_drawn 64 = .ok (.iload_n 3, 1) := by decide +kernel
theorem dX7_drawn_65 : decode cX7_drawn 65 = .ok (.ishl, 1) := by decide +kernel
theorem dX7_drawn_66 : decode cX7_drawn 66 = .ok (.goto 4, 3) := by decide +kernel
theorem dX7_drawn_69 : decode cX7_drawn 69 = .ok (.iconst 0, 1) := by decide +kernel
theorem dX7_drawn_70 : decode cX7_drawn 70 = .ok (.ixor, 1) := by decide +kernel
theorem dX7_drawn_71 : decode cX7_drawn 71 = .ok (.istore_n 2, 1) := by decide +kernel
theorem dX7_drawn_72 : decode cX7_drawn 72 = .ok (.iinc 3 1, 3) := by decide +kernel
theorem dX7_drawn_75 : decode cX7_drawn 75 = .ok (.goto (-62), 3) := by decide +kernel
theorem dX7_drawn_78 : decode cX7_drawn 78 = .ok (.iload_n 2, 1) := by decide +kernel
theorem dX7_drawn_79 : decode cX7_drawn 79 = .ok (.ireturn, 1) := by decide +kernel
theorem dX7_lot_0 : decode cX7_lot 0 = .ok (.aload_n 0, 1) := by decide +kernel
theorem dX7_lot_1 : decode cX7_lot 1 = .ok (.getfield 35, 3) := by decide +kernel
theorem dX7_lot_4 : decode cX7_lot 4 = .ok (.bipush 31, 2) := by decide +kernel
theorem dX7_lot_6 : decode cX7_lot 6 = .ok (.iaload, 1) := by decide +kernel
theorem dX7_lot_7 : decode cX7_lot 7 = .ok (.istore_n 2, 1) := by decide +kernel
theorem dX7_lot_8 : decode cX7_lot 8 = .ok (.aload_n 0, 1) := by decide +kernel
theorem dX7_lot_9 : decode cX7_lot 9 = .ok (.getfield 35, 3) := by decide +kernel
theorem dX7_lot_12 : decode cX7_lot 12 = .ok (.bipush 31, 2) := by decide +kernel
theorem dX7_lot_14 : decode cX7_lot 14 = .ok (.iload_n 1, 1) := by decide +kernel
theorem dX7_lot_15 : decode cX7_lot 15 = .ok (.iastore, 1) := by decide +kernel
theorem dX7_lot_16 : decode cX7_lot 16 = .ok (.iload_n 2, 1) := by decide +kernel
theorem dX7_lot_17 : decode cX7_lot 17 = .ok (.ireturn, 1) := by decide +kernel
theorem dX7_mark_0 : decode cX7_mark 0 = .ok (.iload_n 1, 1) := by decide +kernel
theorem dX7_mark_1 : decode cX7_mark 1 = .ok (.iconst 0, 1) := by decide +kernel
theorem dX7_mark_2 : decode cX7_mark 2 = .ok (.iconst 5, 1) := by decide +kernel
theorem dX7_mark_3 : decode cX7_mark 3 = .ok (.invokestatic 61, 3) := by decide +kernel
theorem dX7_mark_6 : decode cX7_mark 6 = .ok (.ifCond .eq 11, 3) := by decide +kernel
theorem dX7_mark_9 : decode cX7_mark 9 = .ok (.aload_n 0, 1) := by decide +kernel
theorem dX7_mark_10 : decode cX7_mark 10 = .ok (.iload_n 2, 1) := by decide +kernel
theorem dX7_mark_11 : decode cX7_mark 11 = .ok (.invokevirtual 118, 3) := by decide +kernel
theorem dX7_mark_14 : decode cX7_mark 14 = .ok (.ifCond .ne 6, 3) := by decide +kernel
theorem dX7_mark_17 : decode cX7_mark 17 = .ok (.ldc 176, 2) := by decide +kernel
theorem dX7_mark_19 : decode cX7_mark 19 = .ok (.ireturn, 1) := by decide +kernel
theorem dX7_mark_20 : decode cX7_mark 20 = .ok (.aload_n 0, 1) := by decide +kernel
theorem dX7_mark_21 : decode cX7_mark 21 = .ok (.iload_n 2, 1) := by decide +kernel
theorem dX7_mark_22 : decode cX7_mark 22 = .ok (.invokevirtual 121, 3) := by decide +kernel
theorem dX7_mark_25 : decode cX7_mark 25 = .ok (.istore_n 3, 1) := by decide +kernel
theorem dX7_mark_26 : decode cX7_mark 26 = .ok (.iload_n 1, 1) := by decide +kernel
theorem dX7_mark_27 : decode cX7_mark 27 = .ok (.tableswitch 128 0 4 #[33, 45, 61, 82, 100], 33) := by decide +kernel
theorem dX7_mark_60 : decode cX7_mark 60 = .ok (.aload_n 0, 1) := by decide +kernel
theorem dX7_mark_61 : decode cX7_mark 61 = .ok (.dup, 1) := by decide +kernel
theorem dX7_mark_62 : decode cX7_mark 62 = .ok (.getfield 177, 3) := by decide +kernel
theorem dX7_mark_65 : decode cX7_mark 65 = .ok (.lconst 1, 1) := by decide +kernel
theorem dX7_mark_66 : decode cX7_mark 66 = .ok (.ladd, 1) := by decide +kernel
theorem dX7_mark_67 : decode cX7_mark 67 = .ok (.putfield 177, 3) := by decide +kernel
theorem dX7_mark_70 : decode cX7_mark 70 = .ok (.iload_n 3, 1) := by decide +kernel
theorem dX7_mark_71 : decode cX7_mark 71 = .ok (.ireturn, 1) := by decide +kernel
theorem dX7_mark_72 : decode cX7_mark 72 = .ok (.aload_n 0, 1) := by decide +kernel
theorem dX7_mark_73 : decode cX7_mark 73 = .ok (.dup, 1) := by decide +kernel
theorem dX7_mark_74 : decode cX7_mark 74 = .ok (.getfield 177, 3) := by decide +kernel
theorem dX7_mark_77 : decode cX7_mark 77 = .ok (.ldc2_w 181, 3) := by decide +kernel
theorem dX7_mark_80 : decode cX7_mark 80 = .ok (.ladd, 1) := by decide +kernel
theorem dX7_mark_81 : decode cX7_mark 81 = .ok (.putfield 177, 3) := by decide +kernel
theorem dX7_mark_84 : decode cX7_mark 84 = .ok (.iconst 2, 1) := by decide +kernel
theorem dX7_mark_85 : decode cX7_mark 85 = .ok (.iload_n 3, 1) := by decide +kernel
theorem dX7_mark_86 : decode cX7_mark 86 = .ok (.imul, 1) := by decide +kernel
theorem dX7_mark_87 : decode cX7_mark 87 = .ok (.ireturn, 1) := by decide +kernel
theorem dX7_mark_88 : decode cX7_mark 88 = .ok (.aload_n 0, 1) := by decide +kernel
theorem dX7_mark_89 : decode cX7_mark 89 = .ok (.dup, 1) := by decide +kernel
theorem dX7_mark_90 : decode cX7_mark 90 = .ok (.getfield 177, 3) := by decide +kernel
theorem dX7_mark_93 : decode cX7_mark 93 = .ok (.ldc2_w 183, 3) := by decide +kernel
theorem dX7_mark_96 : decode cX7_mark 96 = .ok (.ladd, 1) := by decide +kernel
theorem dX7_mark_97 : decode cX7_mark 97 = .ok (.putfield 177, 3) := by decide +kernel
theorem dX7_mark_100 : decode cX7_mark 100 = .ok (.iload_n 3, 1) := by decide +kernel
theorem dX7_mark_101 : decode cX7_mark 101 = .ok (.aload_n 0, 1) := by decide +kernel
theorem dX7_mark_102 : decode cX7_mark 102 = .ok (.getfield 26, 3) := by decide +kernel
theorem dX7_mark_105 : decode cX7_mark 105 = .ok (.iload_n 2, 1) := by decide +kernel
theorem dX7_mark_106 : decode cX7_mark 106 = .ok (.iaload, 1) := by decide +kernel
theorem dX7_mark_107 : decode cX7_mark 107 = .ok (.iadd, 1) := by decide +kernel
theorem dX7_mark_108 : decode cX7_mark 108 = .ok (.ireturn, 1) := by decide +kernel
theorem dX7_mark_109 : decode cX7_mark 109 = .ok (.aload_n 0, 1) := by decide +kernel
theorem dX7_mark_110 : decode cX7_mark 110 = .ok (.dup, 1) := by decide +kernel
theorem dX7_mark_111 : decode cX7_mark 111 = .ok (.getfield 177, 3) := by decide +kernel
theorem dX7_mark_114 : decode cX7_mark 114 = .ok (.ldc2_w 185, 3) := by decide +kernel
theorem dX7_mark_117 : decode cX7_mark 117 = .ok (.ladd, 1) := by decide +kernel
theorem dX7_mark_118 : decode cX7_mark 118 = .ok (.putfield 177, 3) := by decide +kernel
theorem dX7_mark_121 : decode cX7_mark 121 = .ok (.iconst 2, 1) := by decide +kernel
theorem dX7_mark_122 : decode cX7_mark 122 = .ok (.iload_n 3, 1) := by decide +kernel
theorem dX7_mark_123 : decode cX7_mark 123 = .ok (.imul, 1) := by decide +kernel
theorem dX7_mark_124 : decode cX7_mark 124 = .ok (.iload_n 2, 1) := by decide +kernel
theorem dX7_mark_125 : decode cX7_mark 125 = .ok (.iadd, 1) := by decide +kernel
theorem dX7_mark_126 : decode cX7_mark 126 = .ok (.ireturn, 1) := by decide +kernel
theorem dX7_mark_127 : decode cX7_mark 127 = .ok (.aload_n 0, 1) := by decide +kernel
theorem dX7_mark_128 : decode cX7_mark 128 = .ok (.dup, 1) := by decide +kernel
theorem dX7_mark_129 : decode cX7_mark 129 = .ok (.getfield 177, 3) := by decide +kernel
theorem dX7_mark_132 : decode cX7_mark 132 = .ok (.ldc2_w 187, 3) := by decide +kernel
theorem dX7_mark_135 : decode cX7_mark 135 = .ok (.ladd, 1) := by decide +kernel
theorem dX7_mark_136 : decode cX7_mark 136 = .ok (.putfield 177, 3) := by decide +kernel
theorem dX7_mark_139 : decode cX7_mark 139 = .ok (.iload_n 3, 1) := by decide +kernel
theorem dX7_mark_140 : decode cX7_mark 140 = .ok (.aload_n 0, 1) := by decide +kernel
theorem dX7_mark_141 : decode cX7_mark 141 = .ok (.getfield 26, 3) := by decide +kernel
theorem dX7_mark_144 : decode cX7_mark 144 = .ok (.iload_n 2, 1) := by decide +kernel
theorem dX7_mark_145 : decode cX7_mark 145 = .ok (.iaload, 1) := by decide +kernel
theorem dX7_mark_146 : decode cX7_mark 146 = .ok (.iadd, 1) := by decide +kernel
theorem dX7_mark_147 : decode cX7_mark 147 = .ok (.aload_n 0, 1) := by decide +kernel
theorem dX7_mark_148 : decode cX7_mark 148 = .ok (.getfield 29, 3) := by decide +kernel
theorem dX7_mark_151 : decode cX7_mark 151 = .ok (.iload_n 2, 1) := by decide +kernel
theorem dX7_mark_152 : decode cX7_mark 152 = .ok (.iaload, 1) := by decide +kernel
theorem dX7_mark_153 : decode cX7_mark 153 = .ok (.isub, 1) := by decide +kernel
theorem dX7_mark_154 : decode cX7_mark 154 = .ok (.ireturn, 1) := by decide +kernel
theorem dX7_mark_155 : decode cX7_mark 155 = .ok (.aload_n 0, 1) := by decide +kernel
theorem dX7_mark_156 : decode cX7_mark 156 = .ok (.dup, 1) := by decide +kernel
theorem dX7_mark_157 : decode cX7_mark 157 = .ok (.getfield 177, 3) := by decide +kernel
theorem dX7_mark_160 : decode cX7_mark 160 = .ok (.ldc2_w 189, 3) := by decide +kernel
theorem dX7_mark_163 : decode cX7_mark 163 = .ok (.ladd, 1) := by decide +kernel
theorem dX7_mark_164 : decode cX7_mark 164 = .ok (.putfield 177, 3) := by decide +kernel
theorem dX7_mark_167 : decode cX7_mark 167 = .ok (.iload_n 3, 1) := by decide +kernel
theorem dX7_mark_168 : decode cX7_mark 168 = .ok (.aload_n 0, 1) := by decide +kernel
theorem dX7_mark_169 : decode cX7_mark 169 = .ok (.getfield 35, 3) := by decide +kernel
theorem dX7_mark_172 : decode cX7_mark 172 = .ok (.bipush 32, 2) := by decide +kernel
theorem dX7_mark_174 : decode cX7_mark 174 = .ok (.iaload, 1) := by decide +kernel
theorem dX7_mark_175 : decode cX7_mark 175 = .ok (.iadd, 1) := by decide +kernel
theorem dX7_mark_176 : decode cX7_mark 176 = .ok (.ireturn, 1) := by decide +kernel
theorem dX7_copy_0 : decode cX7_copy 0 = .ok (.iconst 0, 1) := by decide +kernel
theorem dX7_copy_1 : decode cX7_copy 1 = .ok (.istore_n 3, 1) := by decide +kernel
theorem dX7_copy_2 : decode cX7_copy 2 = .ok (.iload_n 3, 1) := by decide +kernel
theorem dX7_copy_3 : decode cX7_copy 3 = .ok (.bipush 73, 2) := by decide +kernel
theorem dX7_copy_5 : decode cX7_copy 5 = .ok (.if_icmp .ge 25, 3) := by decide +kernel
theorem dX7_copy_8 : decode cX7_copy 8 = .ok (.aload_n 0, 1) := by decide +kernel
theorem dX7_copy_9 : decode cX7_copy 9 = .ok (.getfield 35, 3) := by decide +kernel
theorem dX7_copy_12 : decode cX7_copy 12 = .ok (.iload_n 2, 1) := by decide +kernel
theorem dX7_copy_13 : decode cX7_copy 13 = .ok (.iload_n 3, 1) := by decide +kernel
theorem dX7_copy_14 : decode cX7_copy 14 = .ok (.iadd, 1) := by decide +kernel
theorem dX7_copy_15 : decode cX7_copy 15 = .ok (.aload_n 0, 1) := by decide +kernel
theorem dX7_copy_16 : decode cX7_copy 16 = .ok (.getfield 35, 3) := by decide +kernel
theorem dX7_copy_19 : decode cX7_copy 19 = .ok (.iload_n 1, 1) := by decide +kernel
theorem dX7_copy_20 : decode cX7_copy 20 = .ok (.iload_n 3, 1) := by decide +kernel
theorem dX7_copy_21 : decode cX7_copy 21 = .ok (.iadd, 1) := by decide +kernel
theorem dX7_copy_22 : decode cX7_copy 22 = .ok (.iaload, 1) := by decide +kernel
theorem dX7_copy_23 : decode cX7_copy 23 = .ok (.iastore, 1) := by decide +kernel
theorem dX7_copy_24 : decode cX7_copy 24 = .ok (.iinc 3 1, 3) := by decide +kernel
theorem dX7_copy_27 : decode cX7_copy 27 = .ok (.goto (-25), 3) := by decide +kernel
theorem dX7_copy_30 : decode cX7_copy 30 = .ok (.return_, 1) := by decide +kernel
theorem dX7_keep_0 : decode cX7_keep 0 = .ok (.iload_n 1, 1) := by decide +kernel
theorem dX7_keep_1 : decode cX7_keep 1 = .ok (.iconst 0, 1) := by decide +kernel
theorem dX7_keep_2 : decode cX7_keep 2 = .ok (.iconst 1, 1) := by decide +kernel
theorem dX7_keep_3 : decode cX7_keep 3 = .ok (.invokestatic 61, 3) := by decide +kernel
theorem dX7_keep_6 : decode cX7_keep 6 = .ok (.ifCond .ne 5, 3) := by decide +kernel
theorem dX7_keep_9 : decode cX7_keep 9 = .ok (.iconst (-1), 1) := by decide +kernel
theorem dX7_keep_10 : decode cX7_keep 10 = .ok (.ireturn, 1) := by decide +kernel
theorem dX7_keep_11 : decode cX7_keep 11 = .ok (.aload_n 0, 1) := by decide +kernel
theorem dX7_keep_12 : decode cX7_keep 12 = .ok (.iconst 0, 1) := by decide +kernel
theorem dX7_keep_13 : decode cX7_keep 13 = .ok (.bipush 73, 2) := by decide +kernel
theorem dX7_keep_15 : decode cX7_keep 15 = .ok (.iconst 1, 1) := by decide +kernel
theorem dX7_keep_16 : decode cX7_keep 16 = .ok (.iload_n 1, 1) := by decide +kernel
theorem dX7_keep_17 : decode cX7_keep 17 = .ok (.iadd, 1) := by decide +kernel
theorem dX7_keep_18 : decode cX7_keep 18 = .ok (.imul, 1) := by decide +kernel
theorem dX7_keep_19 : decode cX7_keep 19 = .ok (.invokevirtual 191, 3) := by decide +kernel
theorem dX7_keep_22 : decode cX7_keep 22 = .ok (.aload_n 0, 1) := by decide +kernel
theorem dX7_keep_23 : decode cX7_keep 23 = .ok (.getfield 38, 3) := by decide +kernel
theorem dX7_keep_26 : decode cX7_keep 26 = .ok (.iload_n 1, 1) := by decide +kernel
theorem dX7_keep_27 : decode cX7_keep 27 = .ok (.iconst 1, 1) := by decide +kernel
theorem dX7_keep_28 : decode cX7_keep 28 = .ok (.bastore, 1) := by decide +kernel
theorem dX7_keep_29 : decode cX7_keep 29 = .ok (.aload_n 0, 1) := by decide +kernel
theorem dX7_keep_30 : decode cX7_keep 30 = .ok (.getfield 35, 3) := by decide +kernel
theorem dX7_keep_33 : decode cX7_keep 33 = .ok (.bipush 32, 2) := by decide +kernel
theorem dX7_keep_35 : decode cX7_keep 35 = .ok (.iaload, 1) := by decide +kernel
theorem dX7_keep_36 : decode cX7_keep 36 = .ok (.ireturn, 1) := by decide +kernel
theorem dX7_back_0 : decode cX7_back 0 = .ok (.iload_n 1, 1) := by decide +kernel
theorem dX7_back_1 : decode cX7_back 1 = .ok (.iconst 0, 1) := by decide +kernel
theorem dX7_back_2 : decode cX7_back 2 = .ok (.iconst 1, 1) := by decide +kernel
theorem dX7_back_3 : decode cX7_back 3 = .ok (.invokestatic 61, 3) := by decide +kernel
theorem dX7_back_6 : decode cX7_back 6 = .ok (.ifCond .ne 5, 3) := by decide +kernel
theorem dX7_back_9 : decode cX7_back 9 = .ok (.iconst (-1), 1) := by decide +kernel
theorem dX7_back_10 : decode cX7_back 10 = .ok (.ireturn, 1) := by decide +kernel
theorem dX7_back_11 : decode cX7_back 11 = .ok (.aload_n 0, 1) := by decide +kernel
theorem dX7_back_12 : decode cX7_back 12 = .ok (.getfield 38, 3) := by decide +kernel
theorem dX7_back_15 : decode cX7_back 15 = .ok (.iload_n 1, 1) := by decide +kernel
theorem dX7_back_16 : decode cX7_back 16 = .ok (.baload, 1) := by decide +kernel
theorem dX7_back_17 : decode cX7_back 17 = .ok (.ifCond .ne 6, 3) := by decide +kernel
theorem dX7_back_20 : decode cX7_back 20 = .ok (.bipush (-2), 2) := by decide +kernel
theorem dX7_back_22 : decode cX7_back 22 = .ok (.ireturn, 1) := by decide +kernel
theorem dX7_back_23 : decode cX7_back 23 = .ok (.aload_n 0, 1) := by decide +kernel
theorem dX7_back_24 : decode cX7_back 24 = .ok (.bipush 73, 2) := by decide +kernel
theorem dX7_back_26 : decode cX7_back 26 = .ok (.iconst 1, 1) := by decide +kernel
theorem dX7_back_27 : decode cX7_back 27 = .ok (.iload_n 1, 1) := by decide +kernel
theorem dX7_back_28 : decode cX7_back 28 = .ok (.iadd, 1) := by decide +kernel
theorem dX7_back_29 : decode cX7_back 29 = .ok (.imul, 1) := by decide +kernel
theorem dX7_back_30 : decode cX7_back 30 = .ok (.iconst 0, 1) := by decide +kernel
theorem dX7_back_31 : decode cX7_back 31 = .ok (.invokevirtual 191, 3) := by decide +kernel
theorem dX7_back_34 : decode cX7_back 34 = .ok (.aload_n 0, 1) := by decide +kernel
theorem dX7_back_35 : decode cX7_back 35 = .ok (.getfield 35, 3) := by decide +kernel
theorem dX7_back_38 : decode cX7_back 38 = .ok (.bipush 32, 2) := by decide +kernel
theorem dX7_back_40 : decode cX7_back 40 = .ok (.iaload, 1) := by decide +kernel
theorem dX7_back_41 : decode cX7_back 41 = .ok (.ireturn, 1) := by decide +kernel
theorem dX7_count_0 : decode cX7_count 0 = .ok (.iload_n 1, 1) := by decide +kernel
theorem dX7_count_1 : decode cX7_count 1 = .ok (.ifCond .ne 12, 3) := by decide +kernel
theorem dX7_count_4 : decode cX7_count 4 = .ok (.aload_n 0, 1) := by decide +kernel
theorem dX7_count_5 : decode cX7_count 5 = .ok (.getfield 13, 3) := by decide +kernel
theorem dX7_count_8 : decode cX7_count 8 = .ok (.iconst 0, 1) := by decide +kernel
theorem dX7_count_9 : decode cX7_count 9 = .ok (.iaload, 1) := by decide +kernel
theorem dX7_count_10 : decode cX7_count 10 = .ok (.goto 60, 3) := by decide +kernel
theorem dX7_count_13 : decode cX7_count 13 = .ok (.iload_n 1, 1) := by decide +kernel
theorem dX7_count_14 : decode cX7_count 14 = .ok (.iconst 1, 1) := by decide +kernel
theorem dX7_count_15 : decode cX7_count 15 = .ok (.if_icmp .ne 12, 3) := by decide +kernel
theorem dX7_count_18 : decode cX7_count 18 = .ok (.aload_n 0, 1) := by decide +kernel
theorem dX7_count_19 : decode cX7_count 19 = .ok (.getfield 20, 3) := by decide +kernel
theorem dX7_count_22 : decode cX7_count 22 = .ok (.iconst 0, 1) := by decide +kernel
theorem dX7_count_23 : decode cX7_count 23 = .ok (.iaload, 1) := by decide +kernel
theorem dX7_count_24 : decode cX7_count 24 = .ok (.goto 46, 3) := by decide +kernel
theorem dX7_count_27 : decode cX7_count 27 = .ok (.iload_n 1, 1) := by decide +kernel
theorem dX7_count_28 : decode cX7_count 28 = .ok (.iconst 2, 1) := by decide +kernel
theorem dX7_count_29 : decode cX7_count 29 = .ok (.if_icmp .ne 13, 3) := by decide +kernel
theorem dX7_count_32 : decode cX7_count 32 = .ok (.aload_n 0, 1) := by decide +kernel
theorem dX7_count_33 : decode cX7_count 33 = .ok (.getfield 35, 3) := by decide +kernel
theorem dX7_count_36 : decode cX7_count 36 = .ok (.bipush 32, 2) := by decide +kernel
theorem dX7_count_38 : decode cX7_count 38 = .ok (.iaload, 1) := by decide +kernel
theorem dX7_count_39 : decode cX7_count 39 = .ok (.goto 31, 3) := by decide +kernel
theorem dX7_count_42 : decode cX7_count 42 = .ok (.iload_n 1, 1) := by decide +kernel
theorem dX7_count_43 : decode cX7_count 43 = .ok (.iconst 3, 1) := by decide +kernel
theorem dX7_count_44 : decode cX7_count 44 = .ok (.if_icmp .ne 13, 3) := by decide +kernel
theorem dX7_count_47 : decode cX7_count 47 = .ok (.aload_n 0, 1) := by decide +kernel
theorem dX7_count_48 : decode cX7_count 48 = .ok (.getfield 35, 3) := by decide +kernel
theorem dX7_count_51 : decode cX7_count 51 = .ok (.bipush 30, 2) := by decide +kernel
theorem dX7_count_53 : decode cX7_count 53 = .ok (.iaload, 1) := by decide +kernel
theorem dX7_count_54 : decode cX7_count 54 = .ok (.goto 16, 3) := by decide +kernel
theorem dX7_count_57 : decode cX7_count 57 = .ok (.iload_n 1, 1) := by decide +kernel
theorem dX7_count_58 : decode cX7_count 58 = .ok (.iconst 4, 1) := by decide +kernel
theorem dX7_count_59 : decode cX7_count 59 = .ok (.if_icmp .ne 10, 3) := by decide +kernel
theorem dX7_count_62 : decode cX7_count 62 = .ok (.aload_n 0, 1) := by decide +kernel
theorem dX7_count_63 : decode cX7_count 63 = .ok (.getfield 65, 3) := by decide +kernel
theorem dX7_count_66 : decode cX7_count 66 = .ok (.goto 4, 3) := by decide +kernel
theorem dX7_count_69 : decode cX7_count 69 = .ok (.iconst (-1), 1) := by decide +kernel
theorem dX7_count_70 : decode cX7_count 70 = .ok (.ireturn, 1) := by decide +kernel
theorem dX7_trace_0 : decode cX7_trace 0 = .ok (.aload_n 0, 1) := by decide +kernel
theorem dX7_trace_1 : decode cX7_trace 1 = .ok (.getfield 177, 3) := by decide +kernel
theorem dX7_trace_4 : decode cX7_trace 4 = .ok (.lreturn, 1) := by decide +kernel
end
section
theorem dJ6_bitCount_0f7a4_0 : decode cJ6_bitCount_0f7a4 0 = .ok (.iload_n 0, 1) := by decide +kernel
theorem dJ6_bitCount_0f7a4_1 : decode cJ6_bitCount_0f7a4 1 = .ok (.iload_n 0, 1) := by decide +kernel
theorem dJ6_bitCount_0f7a4_2 : decode cJ6_bitCount_0f7a4 2 = .ok (.iconst 1, 1) := by decide +kernel
theorem dJ6_bitCount_0f7a4_3 : decode cJ6_bitCount_0f7a4 3 = .ok (.iushr, 1) := by decide +kernel
theorem dJ6_bitCount_0f7a4_4 : decode cJ6_bitCount_0f7a4 4 = .ok (.ldc_w 265, 3) := by decide +kernel
theorem dJ6_bitCount_0f7a4_7 : decode cJ6_bitCount_0f7a4 7 = .ok (.iand, 1) := by decide +kernel
theorem dJ6_bitCount_0f7a4_8 : decode cJ6_bitCount_0f7a4 8 = .ok (.isub, 1) := by decide +kernel
theorem dJ6_bitCount_0f7a4_9 : decode cJ6_bitCount_0f7a4 9 = .ok (.istore_n 0, 1) := by decide +kernel
theorem dJ6_bitCount_0f7a4_10 : decode cJ6_bitCount_0f7a4 10 = .ok (.iload_n 0, 1) := by decide +kernel
theorem dJ6_bitCount_0f7a4_11 : decode cJ6_bitCount_0f7a4 11 = .ok (.ldc_w 266, 3) := by decide +kernel
theorem dJ6_bitCount_0f7a4_14 : decode cJ6_bitCount_0f7a4 14 = .ok (.iand, 1) := by decide +kernel
theorem dJ6_bitCount_0f7a4_15 : decode cJ6_bitCount_0f7a4 15 = .ok (.iload_n 0, 1) := by decide +kernel
theorem dJ6_bitCount_0f7a4_16 : decode cJ6_bitCount_0f7a4 16 = .ok (.iconst 2, 1) := by decide +kernel
theorem dJ6_bitCount_0f7a4_17 : decode cJ6_bitCount_0f7a4 17 = .ok (.iushr, 1) := by decide +kernel
theorem dJ6_bitCount_0f7a4_18 : decode cJ6_bitCount_0f7a4 18 = .ok (.ldc_w 266, 3) := by decide +kernel
theorem dJ6_bitCount_0f7a4_21 : decode cJ6_bitCount_0f7a4 21 = .ok (.iand, 1) := by decide +kernel
theorem dJ6_bitCount_0f7a4_22 : decode cJ6_bitCount_0f7a4 22 = .ok (.iadd, 1) := by decide +kernel
theorem dJ6_bitCount_0f7a4_23 : decode cJ6_bitCount_0f7a4 23 = .ok (.istore_n 0, 1) := by decide +kernel
theorem dJ6_bitCount_0f7a4_24 : decode cJ6_bitCount_0f7a4 24 = .ok (.iload_n 0, 1) := by decide +kernel
theorem dJ6_bitCount_0f7a4_25 : decode cJ6_bitCount_0f7a4 25 = .ok (.iload_n 0, 1) := by decide +kernel
theorem dJ6_bitCount_0f7a4_26 : decode cJ6_bitCount_0f7a4 26 = .ok (.iconst 4, 1) := by decide +kernel
theorem dJ6_bitCount_0f7a4_27 : decode cJ6_bitCount_0f7a4 27 = .ok (.iushr, 1) := by decide +kernel
theorem dJ6_bitCount_0f7a4_28 : decode cJ6_bitCount_0f7a4 28 = .ok (.iadd, 1) := by decide +kernel
theorem dJ6_bitCount_0f7a4_29 : decode cJ6_bitCount_0f7a4 29 = .ok (.ldc_w 267, 3) := by decide +kernel
theorem dJ6_bitCount_0f7a4_32 : decode cJ6_bitCount_0f7a4 32 = .ok (.iand, 1) := by decide +kernel
theorem dJ6_bitCount_0f7a4_33 : decode cJ6_bitCount_0f7a4 33 = .ok (.istore_n 0, 1) := by decide +kernel
theorem dJ6_bitCount_0f7a4_34 : decode cJ6_bitCount_0f7a4 34 = .ok (.iload_n 0, 1) := by decide +kernel
theorem dJ6_bitCount_0f7a4_35 : decode cJ6_bitCount_0f7a4 35 = .ok (.iload_n 0, 1) := by decide +kernel
theorem dJ6_bitCount_0f7a4_36 : decode cJ6_bitCount_0f7a4 36 = .ok (.bipush 8, 2) := by decide +kernel
theorem dJ6_bitCount_0f7a4_38 : decode cJ6_bitCount_0f7a4 38 = .ok (.iushr, 1) := by decide +kernel
theorem dJ6_bitCount_0f7a4_39 : decode cJ6_bitCount_0f7a4 39 = .ok (.iadd, 1) := by decide +kernel
theorem dJ6_bitCount_0f7a4_40 : decode cJ6_bitCount_0f7a4 40 = .ok (.istore_n 0, 1) := by decide +kernel
theorem dJ6_bitCount_0f7a4_41 : decode cJ6_bitCount_0f7a4 41 = .ok (.iload_n 0, 1) := by decide +kernel
theorem dJ6_bitCount_0f7a4_42 : decode cJ6_bitCount_0f7a4 42 = .ok (.iload_n 0, 1) := by decide +kernel
theorem dJ6_bitCount_0f7a4_43 : decode cJ6_bitCount_0f7a4 43 = .ok (.bipush 16, 2) := by decide +kernel
theorem dJ6_bitCount_0f7a4_45 : decode cJ6_bitCount_0f7a4 45 = .ok (.iushr, 1) := by decide +kernel
theorem dJ6_bitCount_0f7a4_46 : decode cJ6_bitCount_0f7a4 46 = .ok (.iadd, 1) := by decide +kernel
theorem dJ6_bitCount_0f7a4_47 : decode cJ6_bitCount_0f7a4 47 = .ok (.istore_n 0, 1) := by decide +kernel
theorem dJ6_bitCount_0f7a4_48 : decode cJ6_bitCount_0f7a4 48 = .ok (.iload_n 0, 1) := by decide +kernel
theorem dJ6_bitCount_0f7a4_49 : decode cJ6_bitCount_0f7a4 49 = .ok (.bipush 63, 2) := by decide +kernel
theorem dJ6_bitCount_0f7a4_51 : decode cJ6_bitCount_0f7a4 51 = .ok (.iand, 1) := by decide +kernel
theorem dJ6_bitCount_0f7a4_52 : decode cJ6_bitCount_0f7a4 52 = .ok (.ireturn, 1) := by decide +kernel
theorem dJ9_max_7cf53_0 : decode cJ9_max_7cf53 0 = .ok (.iload_n 0, 1) := by decide +kernel
theorem dJ9_max_7cf53_1 : decode cJ9_max_7cf53 1 = .ok (.iload_n 1, 1) := by decide +kernel
theorem dJ9_max_7cf53_2 : decode cJ9_max_7cf53 2 = .ok (.if_icmp .lt 7, 3) := by decide +kernel
theorem dJ9_max_7cf53_5 : decode cJ9_max_7cf53 5 = .ok (.iload_n 0, 1) := by decide +kernel
theorem dJ9_max_7cf53_6 : decode cJ9_max_7cf53 6 = .ok (.goto 4, 3) := by decide +kernel
theorem dJ9_max_7cf53_9 : decode cJ9_max_7cf53 9 = .ok (.iload_n 1, 1) := by decide +kernel
theorem dJ9_max_7cf53_10 : decode cJ9_max_7cf53 10 = .ok (.ireturn, 1) := by decide +kernel
theorem dJ9_min_7cf53_0 : decode cJ9_min_7cf53 0 = .ok (.iload_n 0, 1) := by decide +kernel
theorem dJ9_min_7cf53_1 : decode cJ9_min_7cf53 1 = .ok (.iload_n 1, 1) := by decide +kernel
theorem dJ9_min_7cf53_2 : decode cJ9_min_7cf53 2 = .ok (.if_icmp .gt 7, 3) := by decide +kernel
theorem dJ9_min_7cf53_5 : decode cJ9_min_7cf53 5 = .ok (.iload_n 0, 1) := by decide +kernel
theorem dJ9_min_7cf53_6 : decode cJ9_min_7cf53 6 = .ok (.goto 4, 3) := by decide +kernel
theorem dJ9_min_7cf53_9 : decode cJ9_min_7cf53 9 = .ok (.iload_n 1, 1) := by decide +kernel
theorem dJ9_min_7cf53_10 : decode cJ9_min_7cf53 10 = .ok (.ireturn, 1) := by decide +kernel
theorem dJ0_length_8abf5_0 : decode cJ0_length_8abf5 0 = .ok (.aload_n 0, 1) := by decide +kernel
theorem dJ0_length_8abf5_1 : decode cJ0_length_8abf5 1 = .ok (.getfield 9, 3) := by decide +kernel
theorem dJ0_length_8abf5_4 : decode cJ0_length_8abf5 4 = .ok (.arraylength, 1) := by decide +kernel
theorem dJ0_length_8abf5_5 : decode cJ0_length_8abf5 5 = .ok (.aload_n 0, 1) := by decide +kernel
theorem dJ0_length_8abf5_6 : decode cJ0_length_8abf5 6 = .ok (.invokevirtual 335, 3) := by decide +kernel
theorem dJ0_length_8abf5_9 : decode cJ0_length_8abf5 9 = .ok (.ishr, 1) := by decide +kernel
theorem dJ0_length_8abf5_10 : decode cJ0_length_8abf5 10 = .ok (.ireturn, 1) := by decide +kernel
theorem dJ0_charAt_5068e_0 : decode cJ0_charAt_5068e 0 = .ok (.aload_n 0, 1) := by decide +kernel
theorem dJ0_charAt_5068e_1 : decode cJ0_charAt_5068e 1 = .ok (.invokevirtual 492, 3) := by decide +kernel
theorem dJ0_charAt_5068e_4 : decode cJ0_charAt_5068e 4 = .ok (.ifCond .eq 12, 3) := by decide +kernel
theorem dJ0_charAt_5068e_7 : decode cJ0_charAt_5068e 7 = .ok (.aload_n 0, 1) := by decide +kernel
theorem dJ0_charAt_5068e_8 : decode cJ0_charAt_5068e 8 = .ok (.getfield 9, 3) := by decide +kernel
theorem dJ0_charAt_5068e_11 : decode cJ0_charAt_5068e 11 = .ok (.iload_n 1, 1) := by decide +kernel
theorem dJ0_charAt_5068e_12 : decode cJ0_charAt_5068e 12 = .ok (.invokestatic 495, 3) := by decide +kernel
theorem dJ0_charAt_5068e_15 : decode cJ0_charAt_5068e 15 = .ok (.ireturn, 1) := by decide +kernel
theorem dJ0_charAt_5068e_16 : decode cJ0_charAt_5068e 16 = .ok (.aload_n 0, 1) := by decide +kernel
theorem dJ0_charAt_5068e_17 : decode cJ0_charAt_5068e 17 = .ok (.getfield 9, 3) := by decide +kernel
theorem dJ0_charAt_5068e_20 : decode cJ0_charAt_5068e 20 = .ok (.iload_n 1, 1) := by decide +kernel
theorem dJ0_charAt_5068e_21 : decode cJ0_charAt_5068e 21 = .ok (.invokestatic 498, 3) := by decide +kernel
theorem dJ0_charAt_5068e_24 : decode cJ0_charAt_5068e 24 = .ok (.ireturn, 1) := by decide +kernel
theorem dJ0_coder_7d493_0 : decode cJ0_coder_7d493 0 = .ok (.getstatic 38, 3) := by decide +kernel
theorem dJ0_coder_7d493_3 : decode cJ0_coder_7d493 3 = .ok (.ifCond .eq 10, 3) := by decide +kernel
theorem dJ0_coder_7d493_6 : decode cJ0_coder_7d493 6 = .ok (.aload_n 0, 1) := by decide +kernel
theorem dJ0_coder_7d493_7 : decode cJ0_coder_7d493 7 = .ok (.getfield 15, 3) := by decide +kernel
theorem dJ0_coder_7d493_10 : decode cJ0_coder_7d493 10 = .ok (.goto 4, 3) := by decide +kernel
theorem dJ0_coder_7d493_13 : decode cJ0_coder_7d493 13 = .ok (.iconst 1, 1) := by decide +kernel
theorem dJ0_coder_7d493_14 : decode cJ0_coder_7d493 14 = .ok (.ireturn, 1) := by decide +kernel
theorem dJ0_isLatin1_aae02_0 : decode cJ0_isLatin1_aae02 0 = .ok (.getstatic 38, 3) := by decide +kernel
theorem dJ0_isLatin1_aae02_3 : decode cJ0_isLatin1_aae02 3 = .ok (.ifCond .eq 14, 3) := by decide +kernel
theorem dJ0_isLatin1_aae02_6 : decode cJ0_isLatin1_aae02 6 = .ok (.aload_n 0, 1) := by decide +kernel
theorem dJ0_isLatin1_aae02_7 : decode cJ0_isLatin1_aae02 7 = .ok (.getfield 15, 3) := by decide +kernel
theorem dJ0_isLatin1_aae02_10 : decode cJ0_isLatin1_aae02 10 = .ok (.ifCond .ne 7, 3) := by decide +kernel
theorem dJ0_isLatin1_aae02_13 : decode cJ0_isLatin1_aae02 13 = .ok (.iconst 1, 1) := by decide +kernel
theorem dJ0_isLatin1_aae02_14 : decode cJ0_isLatin1_aae02 14 = .ok (.goto 4, 3) := by decide +kernel
theorem dJ0_isLatin1_aae02_17 : decode cJ0_isLatin1_aae02 17 = .ok (.iconst 0, 1) := by decide +kernel
theorem dJ0_isLatin1_aae02_18 : decode cJ0_isLatin1_aae02 18 = .ok (.ireturn, 1) := by decide +kernel
theorem dJ0_checkIndex_df160_0 : decode cJ0_checkIndex_df160 0 = .ok (.iload_n 0, 1) := by decide +kernel
theorem dJ0_checkIndex_df160_1 : decode cJ0_checkIndex_df160 1 = .ok (.iload_n 1, 1) := by decide +kernel
theorem dJ0_checkIndex_df160_2 : decode cJ0_checkIndex_df160 2 = .ok (.getstatic 1053, 3) := by decide +kernel
theorem dJ0_checkIndex_df160_5 : decode cJ0_checkIndex_df160 5 = .ok (.invokestatic 1059, 3) := by decide +kernel
theorem dJ0_checkIndex_df160_8 : decode cJ0_checkIndex_df160 8 = .ok (.pop, 1) := by decide +kernel
theorem dJ0_checkIndex_df160_9 : decode cJ0_checkIndex_df160 9 = .ok (.return_, 1) := by decide +kernel
theorem dJ1_charAt_3b067_0 : decode cJ1_charAt_3b067 0 = .ok (.iload_n 1, 1) := by decide +kernel
theorem dJ1_charAt_3b067_1 : decode cJ1_charAt_3b067 1 = .ok (.aload_n 0, 1) := by decide +kernel
theorem dJ1_charAt_3b067_2 : decode cJ1_charAt_3b067 2 = .ok (.arraylength, 1) := by decide +kernel
theorem dJ1_charAt_3b067_3 : decode cJ1_charAt_3b067 3 = .ok (.invokestatic 9, 3) := by decide +kernel
theorem dJ1_charAt_3b067_6 : decode cJ1_charAt_3b067 6 = .ok (.aload_n 0, 1) := by decide +kernel
theorem dJ1_charAt_3b067_7 : decode cJ1_charAt_3b067 7 = .ok (.iload_n 1, 1) := by decide +kernel
theorem dJ1_charAt_3b067_8 : decode cJ1_charAt_3b067 8 = .ok (.baload, 1) := by decide +kernel
theorem dJ1_charAt_3b067_9 : decode cJ1_charAt_3b067 9 = .ok (.sipush 255, 3) := by decide +kernel
theorem dJ1_charAt_3b067_12 : decode cJ1_charAt_3b067 12 = .ok (.iand, 1) := by decide +kernel
theorem dJ1_charAt_3b067_13 : decode cJ1_charAt_3b067 13 = .ok (.i2c, 1) := by decide +kernel
theorem dJ1_charAt_3b067_14 : decode cJ1_charAt_3b067 14 = .ok (.ireturn, 1) := by decide +kernel
theorem dJ2_getChar_3b067_0 : decode cJ2_getChar_3b067 0 = .ok (.getstatic 44, 3) := by decide +kernel
theorem dJ2_getChar_3b067_3 : decode cJ2_getChar_3b067 3 = .ok (.ifCond .ne 25, 3) := by decide +kernel
theorem dJ2_getChar_3b067_6 : decode cJ2_getChar_3b067 6 = .ok (.iload_n 1, 1) := by decide +kernel
theorem dJ2_getChar_3b067_7 : decode cJ2_getChar_3b067 7 = .ok (.ifCond .lt 11, 3) := by decide +kernel
theorem dJ2_getChar_3b067_10 : decode cJ2_getChar_3b067 10 = .ok (.iload_n 1, 1) := by decide +kernel
theorem dJ2_getChar_3b067_11 : decode cJ2_getChar_3b067 11 = .ok (.aload_n 0, 1) := by decide +kernel
theorem dJ2_getChar_3b067_12 : decode cJ2_getChar_3b067 12 = .ok (.invokestatic 48, 3) := by decide +kernel
theorem dJ2_getChar_3b067_15 : decode cJ2_getChar_3b067 15 = .ok (.if_icmp .lt 13, 3) := by decide +kernel
theorem dJ2_getChar_3b067_18 : decode cJ2_getChar_3b067 18 = .ok (.new 52, 3) := by decide +kernel
theorem dJ2_getChar_3b067_21 : decode cJ2_getChar_3b067 21 = .ok (.dup, 1) := by decide +kernel
theorem dJ2_getChar_3b067_22 : decode cJ2_getChar_3b067 22 = .ok (.ldc 54, 2) := by decide +kernel
theorem dJ2_getChar_3b067_24 : decode cJ2_getChar_3b067 24 = .ok (.invokespecial 56, 3) := by decide +kernel
theorem dJ2_getChar_3b067_27 : decode cJ2_getChar_3b067 27 = .ok (.athrow, 1) := by decide +kernel
theorem dJ2_getChar_3b067_28 : decode cJ2_getChar_3b067 28 = .ok (.iload_n 1, 1) := by decide +kernel
theorem dJ2_getChar_3b067_29 : decode cJ2_getChar_3b067 29 = .ok (.iconst 1, 1) := by decide +kernel
theorem dJ2_getChar_3b067_30 : decode cJ2_getChar_3b067 30 = .ok (.ishl, 1) := by decide +kernel
theorem dJ2_getChar_3b067_31 : decode cJ2_getChar_3b067 31 = .ok (.istore_n 1, 1) := by decide +kernel
theorem dJ2_getChar_3b067_32 : decode cJ2_getChar_3b067 32 = .ok (.aload_n 0, 1) := by decide +kernel
theorem dJ2_getChar_3b067_33 : decode cJ2_getChar_3b067 33 = .ok (.iload_n 1, 1) := by decide +kernel
theorem dJ2_getChar_3b067_34 : decode cJ2_getChar_3b067 34 = .ok (.iinc 1 1, 3) := by decide +kernel
theorem dJ2_getChar_3b067_37 : decode cJ2_getChar_3b067 37 = .ok (.baload, 1) := by decide +kernel
theorem dJ2_getChar_3b067_38 : decode cJ2_getChar_3b067 38 = .ok (.sipush 255, 3) := by decide +kernel
theorem dJ2_getChar_3b067_41 : decode cJ2_getChar_3b067 41 = .ok (.iand, 1) := by decide +kernel
theorem dJ2_getChar_3b067_42 : decode cJ2_getChar_3b067 42 = .ok (.getstatic 59, 3) := by decide +kernel
theorem dJ2_getChar_3b067_45 : decode cJ2_getChar_3b067 45 = .ok (.ishl, 1) := by decide +kernel
theorem dJ2_getChar_3b067_46 : decode cJ2_getChar_3b067 46 = .ok (.aload_n 0, 1) := by decide +kernel
theorem dJ2_getChar_3b067_47 : decode cJ2_getChar_3b067 47 = .ok (.iload_n 1, 1) := by decide +kernel
theorem dJ2_getChar_3b067_48 : decode cJ2_getChar_3b067 48 = .ok (.baload, 1) := by decide +kernel
theorem dJ2_getChar_3b067_49 : decode cJ2_getChar_3b067 49 = .ok (.sipush 255, 3) := by decide +kernel
theorem dJ2_getChar_3b067_52 : decode cJ2_getChar_3b067 52 = .ok (.iand, 1) := by decide +kernel
theorem dJ2_getChar_3b067_53 : decode cJ2_getChar_3b067 53 = .ok (.getstatic 63, 3) := by decide +kernel
theorem dJ2_getChar_3b067_56 : decode cJ2_getChar_3b067 56 = .ok (.ishl, 1) := by decide +kernel
theorem dJ2_getChar_3b067_57 : decode cJ2_getChar_3b067 57 = .ok (.ior, 1) := by decide +kernel
theorem dJ2_getChar_3b067_58 : decode cJ2_getChar_3b067 58 = .ok (.i2c, 1) := by decide +kernel
theorem dJ2_getChar_3b067_59 : decode cJ2_getChar_3b067 59 = .ok (.ireturn, 1) := by decide +kernel
theorem dJ2_length_9d52b_0 : decode cJ2_length_9d52b 0 = .ok (.aload_n 0, 1) := by decide +kernel
theorem dJ2_length_9d52b_1 : decode cJ2_length_9d52b 1 = .ok (.arraylength, 1) := by decide +kernel
theorem dJ2_length_9d52b_2 : decode cJ2_length_9d52b 2 = .ok (.iconst 1, 1) := by decide +kernel
theorem dJ2_length_9d52b_3 : decode cJ2_length_9d52b 3 = .ok (.ishr, 1) := by decide +kernel
theorem dJ2_length_9d52b_4 : decode cJ2_length_9d52b 4 = .ok (.ireturn, 1) := by decide +kernel
theorem dJ2_charAt_3b067_0 : decode cJ2_charAt_3b067 0 = .ok (.iload_n 1, 1) := by decide +kernel
theorem dJ2_charAt_3b067_1 : decode cJ2_charAt_3b067 1 = .ok (.aload_n 0, 1) := by decide +kernel
theorem dJ2_charAt_3b067_2 : decode cJ2_charAt_3b067 2 = .ok (.invokestatic 67, 3) := by decide +kernel
theorem dJ2_charAt_3b067_5 : decode cJ2_charAt_3b067 5 = .ok (.aload_n 0, 1) := by decide +kernel
theorem dJ2_charAt_3b067_6 : decode cJ2_charAt_3b067 6 = .ok (.iload_n 1, 1) := by decide +kernel
theorem dJ2_charAt_3b067_7 : decode cJ2_charAt_3b067 7 = .ok (.invokestatic 71, 3) := by decide +kernel
theorem dJ2_charAt_3b067_10 : decode cJ2_charAt_3b067 10 = .ok (.ireturn, 1) := by decide +kernel
theorem dJ2_checkIndex_2214a_0 : decode cJ2_checkIndex_2214a 0 = .ok (.iload_n 0, 1) := by decide +kernel
theorem dJ2_checkIndex_2214a_1 : decode cJ2_checkIndex_2214a 1 = .ok (.aload_n 1, 1) := by decide +kernel
theorem dJ2_checkIndex_2214a_2 : decode cJ2_checkIndex_2214a 2 = .ok (.invokestatic 48, 3) := by decide +kernel
theorem dJ2_checkIndex_2214a_5 : decode cJ2_checkIndex_2214a 5 = .ok (.invokestatic 414, 3) := by decide +kernel
theorem dJ2_checkIndex_2214a_8 : decode cJ2_checkIndex_2214a 8 = .ok (.return_, 1) := by decide +kernel
theorem dJ3_checkIndex_8e157_0 : decode cJ3_checkIndex_8e157 0 = .ok (.iload_n 0, 1) := by decide +kernel
theorem dJ3_checkIndex_8e157_1 : decode cJ3_checkIndex_8e157 1 = .ok (.ifCond .lt 8, 3) := by decide +kernel
theorem dJ3_checkIndex_8e157_4 : decode cJ3_checkIndex_8e157 4 = .ok (.iload_n 0, 1) := by decide +kernel
theorem dJ3_checkIndex_8e157_5 : decode cJ3_checkIndex_8e157 5 = .ok (.iload_n 1, 1) := by decide +kernel
theorem dJ3_checkIndex_8e157_6 : decode cJ3_checkIndex_8e157 6 = .ok (.if_icmp .lt 10, 3) := by decide +kernel
theorem dJ3_checkIndex_8e157_9 : decode cJ3_checkIndex_8e157 9 = .ok (.aload_n 2, 1) := by decide +kernel
theorem dJ3_checkIndex_8e157_10 : decode cJ3_checkIndex_8e157 10 = .ok (.iload_n 0, 1) := by decide +kernel
theorem dJ3_checkIndex_8e157_11 : decode cJ3_checkIndex_8e157 11 = .ok (.iload_n 1, 1) := by decide +kernel
theorem dJ3_checkIndex_8e157_12 : decode cJ3_checkIndex_8e157 12 = .ok (.invokestatic 95, 3) := by decide +kernel
theorem dJ3_checkIndex_8e157_15 : decode cJ3_checkIndex_8e157 15 = .ok (.athrow, 1) := by decide +kernel
theorem dJ3_checkIndex_8e157_16 : decode cJ3_checkIndex_8e157 16 = .ok (.iload_n 0, 1) := by decide +kernel
theorem dJ3_checkIndex_8e157_17 : decode cJ3_checkIndex_8e157 17 = .ok (.ireturn, 1) := by decide +kernel
theorem dL_law_0 : decode cL_law 0 = .ok (.new 7, 3) := by decide +kernel
theorem dL_law_3 : decode cL_law 3 = .ok (.dup, 1) := by decide +kernel
theorem dL_law_4 : decode cL_law 4 = .ok (.invokespecial 9, 3) := by decide +kernel
theorem dL_law_7 : decode cL_law 7 = .ok (.astore_n 1, 1) := by decide +kernel
theorem dL_law_8 : decode cL_law 8 = .ok (.new 10, 3) := by decide +kernel
theorem dL_law_11 : decode cL_law 11 = .ok (.dup, 1) := by decide +kernel
theorem dL_law_12 : decode cL_law 12 = .ok (.invokespecial 12, 3) := by decide +kernel
theorem dL_law_15 : decode cL_law 15 = .ok (.astore_n 2, 1) := by decide +kernel
theorem dL_law_16 : decode cL_law 16 = .ok (.iconst 0, 1) := by decide +kernel
theorem dL_law_17 : decode cL_law 17 = .ok (.istore_n 3, 1) := by decide +kernel
theorem dL_law_18 : decode cL_law 18 = .ok (.iload_n 3, 1) := by decide +kernel
theorem dL_law_19 : decode cL_law 19 = .ok (.aload_n 0, 1) := by decide +kernel
theorem dL_law_20 : decode cL_law 20 = .ok (.arraylength, 1) := by decide +kernel
theorem dL_law_21 : decode cL_law 21 = .ok (.bipush 6, 2) := by decide +kernel
theorem dL_law_23 : decode cL_law 23 = .ok (.isub, 1) := by decide +kernel
theorem dL_law_24 : decode cL_law 24 = .ok (.if_icmp .gt 1018, 3) := by decide +kernel
theorem dL_law_27 : decode cL_law 27 = .ok (.aload_n 0, 1) := by decide +kernel
theorem dL_law_28 : decode cL_law 28 = .ok (.iload_n 3, 1) := by decide +kernel
theorem dL_law_29 : decode cL_law 29 = .ok (.iaload, 1) := by decide +kernel
theorem dL_law_30 : decode cL_law 30 = .ok (.bipush 31, 2) := by decide +kernel
theorem dL_law_32 : decode cL_law 32 = .ok (.iand, 1) := by decide +kernel
theorem dL_law_33 : decode cL_law 33 = .ok (.tableswitch 1003 0 27 #[127, 190, 203, 216, 249, 282, 315, 328, 381, 404, 437, 460, 523, 576, 609, 632, 676, 719, 742, 785, 818, 841, 864, 887, 920, 943, 966, 989], 127) := by decide +kernel
theorem dL_law_160 : decode cL_law 160 = .ok (.aload_n 1, 1) := by decide +kernel
theorem dL_law_161 : decode cL_law 161 = .ok (.aload_n 0, 1) := by decide +kernel
theorem dL_law_162 : decode cL_law 162 = .ok (.iload_n 3, 1) := by decide +kernel
theorem dL_law_163 : decode cL_law 163 = .ok (.iconst 1, 1) := by decide +kernel
theorem dL_law_164 : decode cL_law 164 = .ok (.iadd, 1) := by decide +kernel
theorem dL_law_165 : decode cL_law 165 = .ok (.iaload, 1) := by decide +kernel
theorem dL_law_166 : decode cL_law 166 = .ok (.i2l, 1) := by decide +kernel
theorem dL_law_167 : decode cL_law 167 = .ok (.bipush 32, 2) := by decide +kernel
theorem dL_law_169 : decode cL_law 169 = .ok (.lshl, 1) := by decide +kernel
theorem dL_law_170 : decode cL_law 170 = .ok (.aload_n 0, 1) := by decide +kernel
theorem dL_law_171 : decode cL_law 171 = .ok (.iload_n 3, 1) := by decide +kernel
theorem dL_law_172 : decode cL_law 172 = .ok (.iconst 2, 1) := by decide +kernel
theorem dL_law_173 : decode cL_law 173 = .ok (.iadd, 1) := by decide +kernel
theorem dL_law_174 : decode cL_law 174 = .ok (.iaload, 1) := by decide +kernel
theorem dL_law_175 : decode cL_law 175 = .ok (.i2l, 1) := by decide +kernel
theorem dL_law_176 : decode cL_law 176 = .ok (.ldc2_w 13, 3) := by decide +kernel
theorem dL_law_179 : decode cL_law 179 = .ok (.land, 1) := by decide +kernel
theorem dL_law_180 : decode cL_law 180 = .ok (.lor, 1) := by decide +kernel
theorem dL_law_181 : decode cL_law 181 = .ok (.aload_n 0, 1) := by decide +kernel
theorem dL_law_182 : decode cL_law 182 = .ok (.iload_n 3, 1) := by decide +kernel
theorem dL_law_183 : decode cL_law 183 = .ok (.iconst 3, 1) := by decide +kernel
theorem dL_law_184 : decode cL_law 184 = .ok (.iadd, 1) := by decide +kernel
theorem dL_law_185 : decode cL_law 185 = .ok (.iaload, 1) := by decide +kernel
theorem dL_law_186 : decode cL_law 186 = .ok (.invokevirtual 15, 3) := by decide +kernel
theorem dL_law_189 : decode cL_law 189 = .ok (.aload_n 2, 1) := by decide +kernel
theorem dL_law_190 : decode cL_law 190 = .ok (.aload_n 0, 1) := by decide +kernel
theorem dL_law_191 : decode cL_law 191 = .ok (.iload_n 3, 1) := by decide +kernel
theorem dL_law_192 : decode cL_law 192 = .ok (.iconst 1, 1) := by decide +kernel
theorem dL_law_193 : decode cL_law 193 = .ok (.iadd, 1) := by decide +kernel
theorem dL_law_194 : decode cL_law 194 = .ok (.iaload, 1) := by decide +kernel
theorem dL_law_195 : decode cL_law 195 = .ok (.i2l, 1) := by decide +kernel
theorem dL_law_196 : decode cL_law 196 = .ok (.bipush 32, 2) := by decide +kernel
theorem dL_law_198 : decode cL_law 198 = .ok (.lshl, 1) := by decide +kernel
theorem dL_law_199 : decode cL_law 199 = .ok (.aload_n 0, 1) := by decide +kernel
theorem dL_law_200 : decode cL_law 200 = .ok (.iload_n 3, 1) := by decide +kernel
theorem dL_law_201 : decode cL_law 201 = .ok (.iconst 2, 1) := by decide +kernel
theorem dL_law_202 : decode cL_law 202 = .ok (.iadd, 1) := by decide +kernel
theorem dL_law_203 : decode cL_law 203 = .ok (.iaload, 1) := by decide +kernel
theorem dL_law_204 : decode cL_law 204 = .ok (.i2l, 1) := by decide +kernel
theorem dL_law_205 : decode cL_law 205 = .ok (.ldc2_w 13, 3) := by decide +kernel
theorem dL_law_208 : decode cL_law 208 = .ok (.land, 1) := by decide +kernel
theorem dL_law_209 : decode cL_law 209 = .ok (.lor, 1) := by decide +kernel
theorem dL_law_210 : decode cL_law 210 = .ok (.aload_n 0, 1) := by decide +kernel
theorem dL_law_211 : decode cL_law 211 = .ok (.iload_n 3, 1) := by decide +kernel
theorem dL_law_212 : decode cL_law 212 = .ok (.iconst 3, 1) := by decide +kernel
theorem dL_law_213 : decode cL_law 213 = .ok (.iadd, 1) := by decide +kernel
theorem dL_law_214 : decode cL_law 214 = .ok (.iaload, 1) := by decide +kernel
theorem dL_law_215 : decode cL_law 215 = .ok (.invokevirtual 19, 3) := by decide +kernel
theorem dL_law_218 : decode cL_law 218 = .ok (.if_icmp .eq 818, 3) := by decide +kernel
theorem dL_law_221 : decode cL_law 221 = .ok (.iconst 0, 1) := by decide +kernel
theorem dL_law_222 : decode cL_law 222 = .ok (.ireturn, 1) := by decide +kernel
theorem dL_law_223 : decode cL_law 223 = .ok (.aload_n 1, 1) := by decide +kernel
theorem dL_law_224 : decode cL_law 224 = .ok (.invokevirtual 20, 3) := by decide +kernel
theorem dL_law_227 : decode cL_law 227 = .ok (.aload_n 2, 1) := by decide +kernel
theorem dL_law_228 : decode cL_law 228 = .ok (.invokevirtual 24, 3) := by decide +kernel
theorem dL_law_231 : decode cL_law 231 = .ok (.if_icmp .eq 805, 3) := by decide +kernel
theorem dL_law_234 : decode cL_law 234 = .ok (.iconst 0, 1) := by decide +kernel
theorem dL_law_235 : decode cL_law 235 = .ok (.ireturn, 1) := by decide +kernel
theorem dL_law_236 : decode cL_law 236 = .ok (.aload_n 1, 1) := by decide +kernel
theorem dL_law_237 : decode cL_law 237 = .ok (.invokevirtual 25, 3) := by decide +kernel
theorem dL_law_240 : decode cL_law 240 = .ok (.aload_n 2, 1) := by decide +kernel
theorem dL_law_241 : decode cL_law 241 = .ok (.invokevirtual 28, 3) := by decide +kernel
theorem dL_law_244 : decode cL_law 244 = .ok (.if_icmp .eq 792, 3) := by decide +kernel
theorem dL_law_247 : decode cL_law 247 = .ok (.iconst 0, 1) := by decide +kernel
theorem dL_law_248 : decode cL_law 248 = .ok (.ireturn, 1) := by decide +kernel
theorem dL_law_249 : decode cL_law 249 = .ok (.aload_n 1, 1) := by decide +kernel
theorem dL_law_250 : decode cL_law 250 = .ok (.aload_n 0, 1) := by decide +kernel
theorem dL_law_251 : decode cL_law 251 = .ok (.iload_n 3, 1) := by decide +kernel
theorem dL_law_252 : decode cL_law 252 = .ok (.iconst 1, 1) := by decide +kernel
theorem dL_law_253 : decode cL_law 253 = .ok (.iadd, 1) := by decide +kernel
theorem dL_law_254 : decode cL_law 254 = .ok (.iaload, 1) := by decide +kernel
theorem dL_law_255 : decode cL_law 255 = .ok (.aload_n 0, 1) := by decide +kernel
theorem dL_law_256 : decode cL_law 256 = .ok (.iload_n 3, 1) := by decide +kernel
theorem dL_law_257 : decode cL_law 257 = .ok (.iconst 2, 1) := by decide +kernel
theorem dL_law_258 : decode cL_law 258 = .ok (.iadd, 1) := by decide +kernel
theorem dL_law_259 : decode cL_law 259 = .ok (.iaload, 1) := by decide +kernel
theorem dL_law_260 : decode cL_law 260 = .ok (.invokevirtual 29, 3) := by decide +kernel
theorem dL_law_263 : decode cL_law 263 = .ok (.aload_n 2, 1) := by decide +kernel
theorem dL_law_264 : decode cL_law 264 = .ok (.aload_n 0, 1) := by decide +kernel
theorem dL_law_265 : decode cL_law 265 = .ok (.iload_n 3, 1) := by decide +kernel
theorem dL_law_266 : decode cL_law 266 = .ok (.iconst 1, 1) := by decide +kernel
theorem dL_law_267 : decode cL_law 267 = .ok (.iadd, 1) := by decide +kernel
theorem dL_law_268 : decode cL_law 268 = .ok (.iaload, 1) := by decide +kernel
theorem dL_law_269 : decode cL_law 269 = .ok (.aload_n 0, 1) := by decide +kernel
theorem dL_law_270 : decode cL_law 270 = .ok (.iload_n 3, 1) := by decide +kernel
theorem dL_law_271 : decode cL_law 271 = .ok (.iconst 2, 1) := by decide +kernel
theorem dL_law_272 : decode cL_law 272 = .ok (.iadd, 1) := by decide +kernel
theorem dL_law_273 : decode cL_law 273 = .ok (.iaload, 1) := by decide +kernel
theorem dL_law_274 : decode cL_law 274 = .ok (.invokevirtual 33, 3) := by decide +kernel
theorem dL_law_277 : decode cL_law 277 = .ok (.if_icmp .eq 759, 3) := by decide +kernel
theorem dL_law_280 : decode cL_law 280 = .ok (.iconst 0, 1) := by decide +kernel
theorem dL_law_281 : decode cL_law 281 = .ok (.ireturn, 1) := by decide +kernel
theorem dL_law_282 : decode cL_law 282 = .ok (.aload_n 1, 1) := by decide +kernel
theorem dL_law_283 : decode cL_law 283 = .ok (.aload_n 0, 1) := by decide +kernel
theorem dL_law_284 : decode cL_law 284 = .ok (.iload_n 3, 1) := by decide +kernel
theorem dL_law_285 : decode cL_law 285 = .ok (.iconst 1, 1) := by decide +kernel
theorem dL_law_286 : decode cL_law 286 = .ok (.iadd, 1) := by decide +kernel
theorem dL_law_287 : decode cL_law 287 = .ok (.iaload, 1) := by decide +kernel
theorem dL_law_288 : decode cL_law 288 = .ok (.aload_n 0, 1) := by decide +kernel
theorem dL_law_289 : decode cL_law 289 = .ok (.iload_n 3, 1) := by decide +kernel
theorem dL_law_290 : decode cL_law 290 = .ok (.iconst 2, 1) := by decide +kernel
theorem dL_law_291 : decode cL_law 291 = .ok (.iadd, 1) := by decide +kernel
theorem dL_law_292 : decode cL_law 292 = .ok (.iaload, 1) := by decide +kernel
theorem dL_law_293 : decode cL_law 293 = .ok (.invokevirtual 34, 3) := by decide +kernel
theorem dL_law_296 : decode cL_law 296 = .ok (.aload_n 2, 1) := by decide +kernel
theorem dL_law_297 : decode cL_law 297 = .ok (.aload_n 0, 1) := by decide +kernel
theorem dL_law_298 : decode cL_law 298 = .ok (.iload_n 3, 1) := by decide +kernel
theorem dL_law_299 : decode cL_law 299 = .ok (.iconst 1, 1) := by decide +kernel
theorem dL_law_300 : decode cL_law 300 = .ok (.iadd, 1) := by decide +kernel
theorem dL_law_301 : decode cL_law 301 = .ok (.iaload, 1) := by decide +kernel
theorem dL_law_302 : decode cL_law 302 = .ok (.aload_n 0, 1) := by decide +kernel
theorem dL_law_303 : decode cL_law 303 = .ok (.iload_n 3, 1) := by decide +kernel
theorem dL_law_304 : decode cL_law 304 = .ok (.iconst 2, 1) := by decide +kernel
theorem dL_law_305 : decode cL_law 305 = .ok (.iadd, 1) := by decide +kernel
theorem dL_law_306 : decode cL_law 306 = .ok (.iaload, 1) := by decide +kernel
theorem dL_law_307 : decode cL_law 307 = .ok (.invokevirtual 37, 3) := by decide +kernel
theorem dL_law_310 : decode cL_law 310 = .ok (.if_icmp .eq 726, 3) := by decide +kernel
theorem dL_law_313 : decode cL_law 313 = .ok (.iconst 0, 1) := by decide +kernel
theorem dL_law_314 : decode cL_law 314 = .ok (.ireturn, 1) := by decide +kernel
theorem dL_law_315 : decode cL_law 315 = .ok (.aload_n 1, 1) := by decide +kernel
theorem dL_law_316 : decode cL_law 316 = .ok (.aload_n 0, 1) := by decide +kernel
theorem dL_law_317 : decode cL_law 317 = .ok (.iload_n 3, 1) := by decide +kernel
theorem dL_law_318 : decode cL_law 318 = .ok (.iconst 1, 1) := by decide +kernel
theorem dL_law_319 : decode cL_law 319 = .ok (.iadd, 1) := by decide +kernel
theorem dL_law_320 : decode cL_law 320 = .ok (.iaload, 1) := by decide +kernel
theorem dL_law_321 : decode cL_law 321 = .ok (.aload_n 0, 1) := by decide +kernel
theorem dL_law_322 : decode cL_law 322 = .ok (.iload_n 3, 1) := by decide +kernel
theorem dL_law_323 : decode cL_law 323 = .ok (.iconst 2, 1) := by decide +kernel
theorem dL_law_324 : decode cL_law 324 = .ok (.iadd, 1) := by decide +kernel
theorem dL_law_325 : decode cL_law 325 = .ok (.iaload, 1) := by decide +kernel
theorem dL_law_326 : decode cL_law 326 = .ok (.invokevirtual 38, 3) := by decide +kernel
theorem dL_law_329 : decode cL_law 329 = .ok (.aload_n 2, 1) := by decide +kernel
theorem dL_law_330 : decode cL_law 330 = .ok (.aload_n 0, 1) := by decide +kernel
theorem dL_law_331 : decode cL_law 331 = .ok (.iload_n 3, 1) := by decide +kernel
theorem dL_law_332 : decode cL_law 332 = .ok (.iconst 1, 1) := by decide +kernel
theorem dL_law_333 : decode cL_law 333 = .ok (.iadd, 1) := by decide +kernel
theorem dL_law_334 : decode cL_law 334 = .ok (.iaload, 1) := by decide +kernel
theorem dL_law_335 : decode cL_law 335 = .ok (.aload_n 0, 1) := by decide +kernel
theorem dL_law_336 : decode cL_law 336 = .ok (.iload_n 3, 1) := by decide +kernel
theorem dL_law_337 : decode cL_law 337 = .ok (.iconst 2, 1) := by decide +kernel
theorem dL_law_338 : decode cL_law 338 = .ok (.iadd, 1) := by decide +kernel
theorem dL_law_339 : decode cL_law 339 = .ok (.iaload, 1) := by decide +kernel
theorem dL_law_340 : decode cL_law 340 = .ok (.invokevirtual 41, 3) := by decide +kernel
theorem dL_law_343 : decode cL_law 343 = .ok (.if_icmp .eq 693, 3) := by decide +kernel
theorem dL_law_346 : decode cL_law 346 = .ok (.iconst 0, 1) := by decide +kernel
theorem dL_law_347 : decode cL_law 347 = .ok (.ireturn, 1) := by decide +kernel
theorem dL_law_348 : decode cL_law 348 = .ok (.aload_n 1, 1) := by decide +kernel
theorem dL_law_349 : decode cL_law 349 = .ok (.invokevirtual 42, 3) := by decide +kernel
theorem dL_law_352 : decode cL_law 352 = .ok (.aload_n 2, 1) := by decide +kernel
theorem dL_law_353 : decode cL_law 353 = .ok (.invokevirtual 45, 3) := by decide +kernel
theorem dL_law_356 : decode cL_law 356 = .ok (.if_icmp .eq 680, 3) := by decide +kernel
theorem dL_law_359 : decode cL_law 359 = .ok (.iconst 0, 1) := by decide +kernel
theorem dL_law_360 : decode cL_law 360 = .ok (.ireturn, 1) := by decide +kernel
theorem dL_law_361 : decode cL_law 361 = .ok (.aload_n 1, 1) := by decide +kernel
theorem dL_law_362 : decode cL_law 362 = .ok (.aload_n 0, 1) := by decide +kernel
theorem dL_law_363 : decode cL_law 363 = .ok (.iload_n 3, 1) := by decide +kernel
theorem dL_law_364 : decode cL_law 364 = .ok (.iconst 1, 1) := by decide +kernel
theorem dL_law_365 : decode cL_law 365 = .ok (.iadd, 1) := by decide +kernel
theorem dL_law_366 : decode cL_law 366 = .ok (.iaload, 1) := by decide +kernel
theorem dL_law_367 : decode cL_law 367 = .ok (.aload_n 0, 1) := by decide +kernel
theorem dL_law_368 : decode cL_law 368 = .ok (.iload_n 3, 1) := by decide +kernel
theorem dL_law_369 : decode cL_law 369 = .ok (.iconst 2, 1) := by decide +kernel
theorem dL_law_370 : decode cL_law 370 = .ok (.iadd, 1) := by decide +kernel
theorem dL_law_371 : decode cL_law 371 = .ok (.iaload, 1) := by decide +kernel
theorem dL_law_372 : decode cL_law 372 = .ok (.aload_n 0, 1) := by decide +kernel
theorem dL_law_373 : decode cL_law 373 = .ok (.iload_n 3, 1) := by decide +kernel
theorem dL_law_374 : decode cL_law 374 = .ok (.iconst 3, 1) := by decide +kernel
theorem dL_law_375 : decode cL_law 375 = .ok (.iadd, 1) := by decide +kernel
theorem dL_law_376 : decode cL_law 376 = .ok (.iaload, 1) := by decide +kernel
theorem dL_law_377 : decode cL_law 377 = .ok (.aload_n 0, 1) := by decide +kernel
theorem dL_law_378 : decode cL_law 378 = .ok (.iload_n 3, 1) := by decide +kernel
theorem dL_law_379 : decode cL_law 379 = .ok (.iconst 4, 1) := by decide +kernel
theorem dL_law_380 : decode cL_law 380 = .ok (.iadd, 1) := by decide +kernel
theorem dL_law_381 : decode cL_law 381 = .ok (.iaload, 1) := by decide +kernel
theorem dL_law_382 : decode cL_law 382 = .ok (.invokevirtual 46, 3) := by decide +kernel
theorem dL_law_385 : decode cL_law 385 = .ok (.aload_n 2, 1) := by decide +kernel
theorem dL_law_386 : decode cL_law 386 = .ok (.aload_n 0, 1) := by decide +kernel
theorem dL_law_387 : decode cL_law 387 = .ok (.iload_n 3, 1) := by decide +kernel
theorem dL_law_388 : decode cL_law 388 = .ok (.iconst 1, 1) := by decide +kernel
theorem dL_law_389 : decode cL_law 389 = .ok (.iadd, 1) := by decide +kernel
theorem dL_law_390 : decode cL_law 390 = .ok (.iaload, 1) := by decide +kernel
theorem dL_law_391 : decode cL_law 391 = .ok (.aload_n 0, 1) := by decide +kernel
theorem dL_law_392 : decode cL_law 392 = .ok (.iload_n 3, 1) := by decide +kernel
theorem dL_law_393 : decode cL_law 393 = .ok (.iconst 2, 1) := by decide +kernel
theorem dL_law_394 : decode cL_law 394 = .ok (.iadd, 1) := by decide +kernel
theorem dL_law_395 : decode cL_law 395 = .ok (.iaload, 1) := by decide +kernel
theorem dL_law_396 : decode cL_law 396 = .ok (.aload_n 0, 1) := by decide +kernel
theorem dL_law_397 : decode cL_law 397 = .ok (.iload_n 3, 1) := by decide +kernel
theorem dL_law_398 : decode cL_law 398 = .ok (.iconst 3, 1) := by decide +kernel
theorem dL_law_399 : decode cL_law 399 = .ok (.iadd, 1) := by decide +kernel
theorem dL_law_400 : decode cL_law 400 = .ok (.iaload, 1) := by decide +kernel
theorem dL_law_401 : decode cL_law 401 = .ok (.aload_n 0, 1) := by decide +kernel
theorem dL_law_402 : decode cL_law 402 = .ok (.iload_n 3, 1) := by decide +kernel
theorem dL_law_403 : decode cL_law 403 = .ok (.iconst 4, 1) := by decide +kernel
theorem dL_law_404 : decode cL_law 404 = .ok (.iadd, 1) := by decide +kernel
theorem dL_law_405 : decode cL_law 405 = .ok (.iaload, 1) := by decide +kernel
theorem dL_law_406 : decode cL_law 406 = .ok (.invokevirtual 50, 3) := by decide +kernel
theorem dL_law_409 : decode cL_law 409 = .ok (.if_icmp .eq 627, 3) := by decide +kernel
theorem dL_law_412 : decode cL_law 412 = .ok (.iconst 0, 1) := by decide +kernel
theorem dL_law_413 : decode cL_law 413 = .ok (.ireturn, 1) := by decide +kernel
theorem dL_law_414 : decode cL_law 414 = .ok (.aload_n 1, 1) := by decide +kernel
theorem dL_law_415 : decode cL_law 415 = .ok (.aload_n 0, 1) := by decide +kernel
theorem dL_law_416 : decode cL_law 416 = .ok (.iload_n 3, 1) := by decide +kernel
theorem dL_law_417 : decode cL_law 417 = .ok (.iconst 1, 1) := by decide +kernel
theorem dL_law_418 : decode cL_law 418 = .ok (.iadd, 1) := by decide +kernel
theorem dL_law_419 : decode cL_law 419 = .ok (.iaload, 1) := by decide +kernel
theorem dL_law_420 : decode cL_law 420 = .ok (.invokevirtual 51, 3) := by decide +kernel
theorem dL_law_423 : decode cL_law 423 = .ok (.aload_n 2, 1) := by decide +kernel
theorem dL_law_424 : decode cL_law 424 = .ok (.aload_n 0, 1) := by decide +kernel
theorem dL_law_425 : decode cL_law 425 = .ok (.iload_n 3, 1) := by decide +kernel
theorem dL_law_426 : decode cL_law 426 = .ok (.iconst 1, 1) := by decide +kernel
theorem dL_law_427 : decode cL_law 427 = .ok (.iadd, 1) := by decide +kernel
theorem dL_law_428 : decode cL_law 428 = .ok (.iaload, 1) := by decide +kernel
theorem dL_law_429 : decode cL_law 429 = .ok (.invokevirtual 55, 3) := by decide +kernel
theorem dL_law_432 : decode cL_law 432 = .ok (.if_icmp .eq 604, 3) := by decide +kernel
theorem dL_law_435 : decode cL_law 435 = .ok (.iconst 0, 1) := by decide +kernel
theorem dL_law_436 : decode cL_law 436 = .ok (.ireturn, 1) := by decide +kernel
theorem dL_law_437 : decode cL_law 437 = .ok (.aload_n 1, 1) := by decide +kernel
theorem dL_law_438 : decode cL_law 438 = .ok (.aload_n 0, 1) := by decide +kernel
theorem dL_law_439 : decode cL_law 439 = .ok (.iload_n 3, 1) := by decide +kernel
theorem dL_law_440 : decode cL_law 440 = .ok (.iconst 1, 1) := by decide +kernel
theorem dL_law_441 : decode cL_law 441 = .ok (.iadd, 1) := by decide +kernel
theorem dL_law_442 : decode cL_law 442 = .ok (.iaload, 1) := by decide +kernel
theorem dL_law_443 : decode cL_law 443 = .ok (.aload_n 0, 1) := by decide +kernel
theorem dL_law_444 : decode cL_law 444 = .ok (.iload_n 3, 1) := by decide +kernel
theorem dL_law_445 : decode cL_law 445 = .ok (.iconst 2, 1) := by decide +kernel
theorem dL_law_446 : decode cL_law 446 = .ok (.iadd, 1) := by decide +kernel
theorem dL_law_447 : decode cL_law 447 = .ok (.iaload, 1) := by decide +kernel
theorem dL_law_448 : decode cL_law 448 = .ok (.invokevirtual 56, 3) := by decide +kernel
theorem dL_law_451 : decode cL_law 451 = .ok (.aload_n 2, 1) := by decide +kernel
theorem dL_law_452 : decode cL_law 452 = .ok (.aload_n 0, 1) := by decide +kernel
theorem dL_law_453 : decode cL_law 453 = .ok (.iload_n 3, 1) := by decide +kernel
theorem dL_law_454 : decode cL_law 454 = .ok (.iconst 1, 1) := by decide +kernel
theorem dL_law_455 : decode cL_law 455 = .ok (.iadd, 1) := by decide +kernel
theorem dL_law_456 : decode cL_law 456 = .ok (.iaload, 1) := by decide +kernel
theorem dL_law_457 : decode cL_law 457 = .ok (.aload_n 0, 1) := by decide +kernel
theorem dL_law_458 : decode cL_law 458 = .ok (.iload_n 3, 1) := by decide +kernel
theorem dL_law_459 : decode cL_law 459 = .ok (.iconst 2, 1) := by decide +kernel
theorem dL_law_460 : decode cL_law 460 = .ok (.iadd, 1) := by decide +kernel
theorem dL_law_461 : decode cL_law 461 = .ok (.iaload, 1) := by decide +kernel
theorem dL_law_462 : decode cL_law 462 = .ok (.invokevirtual 59, 3) := by decide +kernel
theorem dL_law_465 : decode cL_law 465 = .ok (.if_icmp .eq 571, 3) := by decide +kernel
theorem dL_law_468 : decode cL_law 468 = .ok (.iconst 0, 1) := by decide +kernel
theorem dL_law_469 : decode cL_law 469 = .ok (.ireturn, 1) := by decide +kernel
theorem dL_law_470 : decode cL_law 470 = .ok (.aload_n 1, 1) := by decide +kernel
theorem dL_law_471 : decode cL_law 471 = .ok (.aload_n 0, 1) := by decide +kernel
theorem dL_law_472 : decode cL_law 472 = .ok (.iload_n 3, 1) := by decide +kernel
theorem dL_law_473 : decode cL_law 473 = .ok (.iconst 1, 1) := by decide +kernel
theorem dL_law_474 : decode cL_law 474 = .ok (.iadd, 1) := by decide +kernel
theorem dL_law_475 : decode cL_law 475 = .ok (.iaload, 1) := by decide +kernel
theorem dL_law_476 : decode cL_law 476 = .ok (.invokevirtual 60, 3) := by decide +kernel
theorem dL_law_479 : decode cL_law 479 = .ok (.aload_n 2, 1) := by decide +kernel
theorem dL_law_480 : decode cL_law 480 = .ok (.aload_n 0, 1) := by decide +kernel
theorem dL_law_481 : decode cL_law 481 = .ok (.iload_n 3, 1) := by decide +kernel
theorem dL_law_482 : decode cL_law 482 = .ok (.iconst 1, 1) := by decide +kernel
end
section
theorem dL_law_483 : decode cL_law 483 = .ok (.iadd, 1) := by decide +kernel
theorem dL_law_484 : decode cL_law 484 = .ok (.iaload, 1) := by decide +kernel
theorem dL_law_485 : decode cL_law 485 = .ok (.invokevirtual 63, 3) := by decide +kernel
theorem dL_law_488 : decode cL_law 488 = .ok (.if_icmp .eq 548, 3) := by decide +kernel
theorem dL_law_491 : decode cL_law 491 = .ok (.iconst 0, 1) := by decide +kernel
theorem dL_law_492 : decode cL_law 492 = .ok (.ireturn, 1) := by decide +kernel
theorem dL_law_493 : decode cL_law 493 = .ok (.aload_n 1, 1) := by decide +kernel
theorem dL_law_494 : decode cL_law 494 = .ok (.aload_n 0, 1) := by decide +kernel
theorem dL_law_495 : decode cL_law 495 = .ok (.iload_n 3, 1) := by decide +kernel
theorem dL_law_496 : decode cL_law 496 = .ok (.iconst 1, 1) := by decide +kernel
theorem dL_law_497 : decode cL_law 497 = .ok (.iadd, 1) := by decide +kernel
theorem dL_law_498 : decode cL_law 498 = .ok (.iaload, 1) := by decide +kernel
theorem dL_law_499 : decode cL_law 499 = .ok (.aload_n 0, 1) := by decide +kernel
theorem dL_law_500 : decode cL_law 500 = .ok (.iload_n 3, 1) := by decide +kernel
theorem dL_law_501 : decode cL_law 501 = .ok (.iconst 2, 1) := by decide +kernel
theorem dL_law_502 : decode cL_law 502 = .ok (.iadd, 1) := by decide +kernel
theorem dL_law_503 : decode cL_law 503 = .ok (.iaload, 1) := by decide +kernel
theorem dL_law_504 : decode cL_law 504 = .ok (.aload_n 0, 1) := by decide +kernel
theorem dL_law_505 : decode cL_law 505 = .ok (.iload_n 3, 1) := by decide +kernel
theorem dL_law_506 : decode cL_law 506 = .ok (.iconst 3, 1) := by decide +kernel
theorem dL_law_507 : decode cL_law 507 = .ok (.iadd, 1) := by decide +kernel
theorem dL_law_508 : decode cL_law 508 = .ok (.iaload, 1) := by decide +kernel
theorem dL_law_509 : decode cL_law 509 = .ok (.aload_n 0, 1) := by decide +kernel
theorem dL_law_510 : decode cL_law 510 = .ok (.iload_n 3, 1) := by decide +kernel
theorem dL_law_511 : decode cL_law 511 = .ok (.iconst 4, 1) := by decide +kernel
theorem dL_law_512 : decode cL_law 512 = .ok (.iadd, 1) := by decide +kernel
theorem dL_law_513 : decode cL_law 513 = .ok (.iaload, 1) := by decide +kernel
theorem dL_law_514 : decode cL_law 514 = .ok (.aload_n 0, 1) := by decide +kernel
theorem dL_law_515 : decode cL_law 515 = .ok (.iload_n 3, 1) := by decide +kernel
theorem dL_law_516 : decode cL_law 516 = .ok (.iconst 5, 1) := by decide +kernel
theorem dL_law_517 : decode cL_law 517 = .ok (.iadd, 1) := by decide +kernel
theorem dL_law_518 : decode cL_law 518 = .ok (.iaload, 1) := by decide +kernel
theorem dL_law_519 : decode cL_law 519 = .ok (.invokevirtual 64, 3) := by decide +kernel
theorem dL_law_522 : decode cL_law 522 = .ok (.aload_n 2, 1) := by decide +kernel
theorem dL_law_523 : decode cL_law 523 = .ok (.aload_n 0, 1) := by decide +kernel
theorem dL_law_524 : decode cL_law 524 = .ok (.iload_n 3, 1) := by decide +kernel
theorem dL_law_525 : decode cL_law 525 = .ok (.iconst 1, 1) := by decide +kernel
theorem dL_law_526 : decode cL_law 526 = .ok (.iadd, 1) := by decide +kernel
theorem dL_law_527 : decode cL_law 527 = .ok (.iaload, 1) := by decide +kernel
theorem dL_law_528 : decode cL_law 528 = .ok (.aload_n 0, 1) := by decide +kernel
theorem dL_law_529 : decode cL_law 529 = .ok (.iload_n 3, 1) := by decide +kernel
theorem dL_law_530 : decode cL_law 530 = .ok (.iconst 2, 1) := by decide +kernel
theorem dL_law_531 : decode cL_law 531 = .ok (.iadd, 1) := by decide +kernel
theorem dL_law_532 : decode cL_law 532 = .ok (.iaload, 1) := by decide +kernel
theorem dL_law_533 : decode cL_law 533 = .ok (.aload_n 0, 1) := by decide +kernel
theorem dL_law_534 : decode cL_law 534 = .ok (.iload_n 3, 1) := by decide +kernel
theorem dL_law_535 : decode cL_law 535 = .ok (.iconst 3, 1) := by decide +kernel
theorem dL_law_536 : decode cL_law 536 = .ok (.iadd, 1) := by decide +kernel
theorem dL_law_537 : decode cL_law 537 = .ok (.iaload, 1) := by decide +kernel
theorem dL_law_538 : decode cL_law 538 = .ok (.aload_n 0, 1) := by decide +kernel
theorem dL_law_539 : decode cL_law 539 = .ok (.iload_n 3, 1) := by decide +kernel
theorem dL_law_540 : decode cL_law 540 = .ok (.iconst 4, 1) := by decide +kernel
theorem dL_law_541 : decode cL_law 541 = .ok (.iadd, 1) := by decide +kernel
theorem dL_law_542 : decode cL_law 542 = .ok (.iaload, 1) := by decide +kernel
theorem dL_law_543 : decode cL_law 543 = .ok (.aload_n 0, 1) := by decide +kernel
theorem dL_law_544 : decode cL_law 544 = .ok (.iload_n 3, 1) := by decide +kernel
theorem dL_law_545 : decode cL_law 545 = .ok (.iconst 5, 1) := by decide +kernel
theorem dL_law_546 : decode cL_law 546 = .ok (.iadd, 1) := by decide +kernel
theorem dL_law_547 : decode cL_law 547 = .ok (.iaload, 1) := by decide +kernel
theorem dL_law_548 : decode cL_law 548 = .ok (.invokevirtual 68, 3) := by decide +kernel
theorem dL_law_551 : decode cL_law 551 = .ok (.if_icmp .eq 485, 3) := by decide +kernel
theorem dL_law_554 : decode cL_law 554 = .ok (.iconst 0, 1) := by decide +kernel
theorem dL_law_555 : decode cL_law 555 = .ok (.ireturn, 1) := by decide +kernel
theorem dL_law_556 : decode cL_law 556 = .ok (.aload_n 1, 1) := by decide +kernel
theorem dL_law_557 : decode cL_law 557 = .ok (.aload_n 0, 1) := by decide +kernel
theorem dL_law_558 : decode cL_law 558 = .ok (.iload_n 3, 1) := by decide +kernel
theorem dL_law_559 : decode cL_law 559 = .ok (.iconst 1, 1) := by decide +kernel
theorem dL_law_560 : decode cL_law 560 = .ok (.iadd, 1) := by decide +kernel
theorem dL_law_561 : decode cL_law 561 = .ok (.iaload, 1) := by decide +kernel
theorem dL_law_562 : decode cL_law 562 = .ok (.aload_n 0, 1) := by decide +kernel
theorem dL_law_563 : decode cL_law 563 = .ok (.iload_n 3, 1) := by decide +kernel
theorem dL_law_564 : decode cL_law 564 = .ok (.iconst 2, 1) := by decide +kernel
theorem dL_law_565 : decode cL_law 565 = .ok (.iadd, 1) := by decide +kernel
theorem dL_law_566 : decode cL_law 566 = .ok (.iaload, 1) := by decide +kernel
theorem dL_law_567 : decode cL_law 567 = .ok (.aload_n 0, 1) := by decide +kernel
theorem dL_law_568 : decode cL_law 568 = .ok (.iload_n 3, 1) := by decide +kernel
theorem dL_law_569 : decode cL_law 569 = .ok (.iconst 3, 1) := by decide +kernel
theorem dL_law_570 : decode cL_law 570 = .ok (.iadd, 1) := by decide +kernel
theorem dL_law_571 : decode cL_law 571 = .ok (.iaload, 1) := by decide +kernel
theorem dL_law_572 : decode cL_law 572 = .ok (.aload_n 0, 1) := by decide +kernel
theorem dL_law_573 : decode cL_law 573 = .ok (.iload_n 3, 1) := by decide +kernel
theorem dL_law_574 : decode cL_law 574 = .ok (.iconst 4, 1) := by decide +kernel
theorem dL_law_575 : decode cL_law 575 = .ok (.iadd, 1) := by decide +kernel
theorem dL_law_576 : decode cL_law 576 = .ok (.iaload, 1) := by decide +kernel
theorem dL_law_577 : decode cL_law 577 = .ok (.invokevirtual 69, 3) := by decide +kernel
theorem dL_law_580 : decode cL_law 580 = .ok (.aload_n 2, 1) := by decide +kernel
theorem dL_law_581 : decode cL_law 581 = .ok (.aload_n 0, 1) := by decide +kernel
theorem dL_law_582 : decode cL_law 582 = .ok (.iload_n 3, 1) := by decide +kernel
theorem dL_law_583 : decode cL_law 583 = .ok (.iconst 1, 1) := by decide +kernel
theorem dL_law_584 : decode cL_law 584 = .ok (.iadd, 1) := by decide +kernel
theorem dL_law_585 : decode cL_law 585 = .ok (.iaload, 1) := by decide +kernel
theorem dL_law_586 : decode cL_law 586 = .ok (.aload_n 0, 1) := by decide +kernel
theorem dL_law_587 : decode cL_law 587 = .ok (.iload_n 3, 1) := by decide +kernel
theorem dL_law_588 : decode cL_law 588 = .ok (.iconst 2, 1) := by decide +kernel
theorem dL_law_589 : decode cL_law 589 = .ok (.iadd, 1) := by decide +kernel
theorem dL_law_590 : decode cL_law 590 = .ok (.iaload, 1) := by decide +kernel
theorem dL_law_591 : decode cL_law 591 = .ok (.aload_n 0, 1) := by decide +kernel
theorem dL_law_592 : decode cL_law 592 = .ok (.iload_n 3, 1) := by decide +kernel
theorem dL_law_593 : decode cL_law 593 = .ok (.iconst 3, 1) := by decide +kernel
theorem dL_law_594 : decode cL_law 594 = .ok (.iadd, 1) := by decide +kernel
theorem dL_law_595 : decode cL_law 595 = .ok (.iaload, 1) := by decide +kernel
theorem dL_law_596 : decode cL_law 596 = .ok (.aload_n 0, 1) := by decide +kernel
theorem dL_law_597 : decode cL_law 597 = .ok (.iload_n 3, 1) := by decide +kernel
theorem dL_law_598 : decode cL_law 598 = .ok (.iconst 4, 1) := by decide +kernel
theorem dL_law_599 : decode cL_law 599 = .ok (.iadd, 1) := by decide +kernel
theorem dL_law_600 : decode cL_law 600 = .ok (.iaload, 1) := by decide +kernel
theorem dL_law_601 : decode cL_law 601 = .ok (.invokevirtual 72, 3) := by decide +kernel
theorem dL_law_604 : decode cL_law 604 = .ok (.if_icmp .eq 432, 3) := by decide +kernel
theorem dL_law_607 : decode cL_law 607 = .ok (.iconst 0, 1) := by decide +kernel
theorem dL_law_608 : decode cL_law 608 = .ok (.ireturn, 1) := by decide +kernel
theorem dL_law_609 : decode cL_law 609 = .ok (.aload_n 1, 1) := by decide +kernel
theorem dL_law_610 : decode cL_law 610 = .ok (.aload_n 0, 1) := by decide +kernel
theorem dL_law_611 : decode cL_law 611 = .ok (.iload_n 3, 1) := by decide +kernel
theorem dL_law_612 : decode cL_law 612 = .ok (.iconst 1, 1) := by decide +kernel
theorem dL_law_613 : decode cL_law 613 = .ok (.iadd, 1) := by decide +kernel
theorem dL_law_614 : decode cL_law 614 = .ok (.iaload, 1) := by decide +kernel
theorem dL_law_615 : decode cL_law 615 = .ok (.aload_n 0, 1) := by decide +kernel
theorem dL_law_616 : decode cL_law 616 = .ok (.iload_n 3, 1) := by decide +kernel
theorem dL_law_617 : decode cL_law 617 = .ok (.iconst 2, 1) := by decide +kernel
theorem dL_law_618 : decode cL_law 618 = .ok (.iadd, 1) := by decide +kernel
theorem dL_law_619 : decode cL_law 619 = .ok (.iaload, 1) := by decide +kernel
theorem dL_law_620 : decode cL_law 620 = .ok (.invokevirtual 73, 3) := by decide +kernel
theorem dL_law_623 : decode cL_law 623 = .ok (.aload_n 2, 1) := by decide +kernel
theorem dL_law_624 : decode cL_law 624 = .ok (.aload_n 0, 1) := by decide +kernel
theorem dL_law_625 : decode cL_law 625 = .ok (.iload_n 3, 1) := by decide +kernel
theorem dL_law_626 : decode cL_law 626 = .ok (.iconst 1, 1) := by decide +kernel
theorem dL_law_627 : decode cL_law 627 = .ok (.iadd, 1) := by decide +kernel
theorem dL_law_628 : decode cL_law 628 = .ok (.iaload, 1) := by decide +kernel
theorem dL_law_629 : decode cL_law 629 = .ok (.aload_n 0, 1) := by decide +kernel
theorem dL_law_630 : decode cL_law 630 = .ok (.iload_n 3, 1) := by decide +kernel
theorem dL_law_631 : decode cL_law 631 = .ok (.iconst 2, 1) := by decide +kernel
theorem dL_law_632 : decode cL_law 632 = .ok (.iadd, 1) := by decide +kernel
theorem dL_law_633 : decode cL_law 633 = .ok (.iaload, 1) := by decide +kernel
theorem dL_law_634 : decode cL_law 634 = .ok (.invokevirtual 76, 3) := by decide +kernel
theorem dL_law_637 : decode cL_law 637 = .ok (.if_icmp .eq 399, 3) := by decide +kernel
theorem dL_law_640 : decode cL_law 640 = .ok (.iconst 0, 1) := by decide +kernel
theorem dL_law_641 : decode cL_law 641 = .ok (.ireturn, 1) := by decide +kernel
theorem dL_law_642 : decode cL_law 642 = .ok (.aload_n 1, 1) := by decide +kernel
theorem dL_law_643 : decode cL_law 643 = .ok (.aload_n 0, 1) := by decide +kernel
theorem dL_law_644 : decode cL_law 644 = .ok (.iload_n 3, 1) := by decide +kernel
theorem dL_law_645 : decode cL_law 645 = .ok (.iconst 1, 1) := by decide +kernel
theorem dL_law_646 : decode cL_law 646 = .ok (.iadd, 1) := by decide +kernel
theorem dL_law_647 : decode cL_law 647 = .ok (.iaload, 1) := by decide +kernel
theorem dL_law_648 : decode cL_law 648 = .ok (.invokevirtual 77, 3) := by decide +kernel
theorem dL_law_651 : decode cL_law 651 = .ok (.aload_n 2, 1) := by decide +kernel
theorem dL_law_652 : decode cL_law 652 = .ok (.aload_n 0, 1) := by decide +kernel
theorem dL_law_653 : decode cL_law 653 = .ok (.iload_n 3, 1) := by decide +kernel
theorem dL_law_654 : decode cL_law 654 = .ok (.iconst 1, 1) := by decide +kernel
theorem dL_law_655 : decode cL_law 655 = .ok (.iadd, 1) := by decide +kernel
theorem dL_law_656 : decode cL_law 656 = .ok (.iaload, 1) := by decide +kernel
theorem dL_law_657 : decode cL_law 657 = .ok (.invokevirtual 80, 3) := by decide +kernel
theorem dL_law_660 : decode cL_law 660 = .ok (.if_icmp .eq 376, 3) := by decide +kernel
theorem dL_law_663 : decode cL_law 663 = .ok (.iconst 0, 1) := by decide +kernel
theorem dL_law_664 : decode cL_law 664 = .ok (.ireturn, 1) := by decide +kernel
theorem dL_law_665 : decode cL_law 665 = .ok (.aload_n 1, 1) := by decide +kernel
theorem dL_law_666 : decode cL_law 666 = .ok (.aload_n 0, 1) := by decide +kernel
theorem dL_law_667 : decode cL_law 667 = .ok (.iload_n 3, 1) := by decide +kernel
theorem dL_law_668 : decode cL_law 668 = .ok (.iconst 1, 1) := by decide +kernel
theorem dL_law_669 : decode cL_law 669 = .ok (.iadd, 1) := by decide +kernel
theorem dL_law_670 : decode cL_law 670 = .ok (.iaload, 1) := by decide +kernel
theorem dL_law_671 : decode cL_law 671 = .ok (.aload_n 0, 1) := by decide +kernel
theorem dL_law_672 : decode cL_law 672 = .ok (.iload_n 3, 1) := by decide +kernel
theorem dL_law_673 : decode cL_law 673 = .ok (.iconst 2, 1) := by decide +kernel
theorem dL_law_674 : decode cL_law 674 = .ok (.iadd, 1) := by decide +kernel
theorem dL_law_675 : decode cL_law 675 = .ok (.iaload, 1) := by decide +kernel
theorem dL_law_676 : decode cL_law 676 = .ok (.aload_n 0, 1) := by decide +kernel
theorem dL_law_677 : decode cL_law 677 = .ok (.iload_n 3, 1) := by decide +kernel
theorem dL_law_678 : decode cL_law 678 = .ok (.iconst 3, 1) := by decide +kernel
theorem dL_law_679 : decode cL_law 679 = .ok (.iadd, 1) := by decide +kernel
theorem dL_law_680 : decode cL_law 680 = .ok (.iaload, 1) := by decide +kernel
theorem dL_law_681 : decode cL_law 681 = .ok (.invokevirtual 81, 3) := by decide +kernel
theorem dL_law_684 : decode cL_law 684 = .ok (.aload_n 2, 1) := by decide +kernel
theorem dL_law_685 : decode cL_law 685 = .ok (.aload_n 0, 1) := by decide +kernel
theorem dL_law_686 : decode cL_law 686 = .ok (.iload_n 3, 1) := by decide +kernel
theorem dL_law_687 : decode cL_law 687 = .ok (.iconst 1, 1) := by decide +kernel
theorem dL_law_688 : decode cL_law 688 = .ok (.iadd, 1) := by decide +kernel
theorem dL_law_689 : decode cL_law 689 = .ok (.iaload, 1) := by decide +kernel
theorem dL_law_690 : decode cL_law 690 = .ok (.aload_n 0, 1) := by decide +kernel
theorem dL_law_691 : decode cL_law 691 = .ok (.iload_n 3, 1) := by decide +kernel
theorem dL_law_692 : decode cL_law 692 = .ok (.iconst 2, 1) := by decide +kernel
theorem dL_law_693 : decode cL_law 693 = .ok (.iadd, 1) := by decide +kernel
theorem dL_law_694 : decode cL_law 694 = .ok (.iaload, 1) := by decide +kernel
theorem dL_law_695 : decode cL_law 695 = .ok (.aload_n 0, 1) := by decide +kernel
theorem dL_law_696 : decode cL_law 696 = .ok (.iload_n 3, 1) := by decide +kernel
theorem dL_law_697 : decode cL_law 697 = .ok (.iconst 3, 1) := by decide +kernel
theorem dL_law_698 : decode cL_law 698 = .ok (.iadd, 1) := by decide +kernel
theorem dL_law_699 : decode cL_law 699 = .ok (.iaload, 1) := by decide +kernel
theorem dL_law_700 : decode cL_law 700 = .ok (.invokevirtual 85, 3) := by decide +kernel
theorem dL_law_703 : decode cL_law 703 = .ok (.lcmp, 1) := by decide +kernel
theorem dL_law_704 : decode cL_law 704 = .ok (.ifCond .eq 332, 3) := by decide +kernel
theorem dL_law_707 : decode cL_law 707 = .ok (.iconst 0, 1) := by decide +kernel
theorem dL_law_708 : decode cL_law 708 = .ok (.ireturn, 1) := by decide +kernel
theorem dL_law_709 : decode cL_law 709 = .ok (.aload_n 1, 1) := by decide +kernel
theorem dL_law_710 : decode cL_law 710 = .ok (.aload_n 0, 1) := by decide +kernel
theorem dL_law_711 : decode cL_law 711 = .ok (.iload_n 3, 1) := by decide +kernel
theorem dL_law_712 : decode cL_law 712 = .ok (.iconst 1, 1) := by decide +kernel
theorem dL_law_713 : decode cL_law 713 = .ok (.iadd, 1) := by decide +kernel
theorem dL_law_714 : decode cL_law 714 = .ok (.iaload, 1) := by decide +kernel
theorem dL_law_715 : decode cL_law 715 = .ok (.aload_n 0, 1) := by decide +kernel
theorem dL_law_716 : decode cL_law 716 = .ok (.iload_n 3, 1) := by decide +kernel
theorem dL_law_717 : decode cL_law 717 = .ok (.iconst 2, 1) := by decide +kernel
theorem dL_law_718 : decode cL_law 718 = .ok (.iadd, 1) := by decide +kernel
theorem dL_law_719 : decode cL_law 719 = .ok (.iaload, 1) := by decide +kernel
theorem dL_law_720 : decode cL_law 720 = .ok (.aload_n 0, 1) := by decide +kernel
theorem dL_law_721 : decode cL_law 721 = .ok (.iload_n 3, 1) := by decide +kernel
theorem dL_law_722 : decode cL_law 722 = .ok (.iconst 3, 1) := by decide +kernel
theorem dL_law_723 : decode cL_law 723 = .ok (.iadd, 1) := by decide +kernel
theorem dL_law_724 : decode cL_law 724 = .ok (.iaload, 1) := by decide +kernel
theorem dL_law_725 : decode cL_law 725 = .ok (.invokevirtual 86, 3) := by decide +kernel
theorem dL_law_728 : decode cL_law 728 = .ok (.aload_n 2, 1) := by decide +kernel
theorem dL_law_729 : decode cL_law 729 = .ok (.aload_n 0, 1) := by decide +kernel
theorem dL_law_730 : decode cL_law 730 = .ok (.iload_n 3, 1) := by decide +kernel
theorem dL_law_731 : decode cL_law 731 = .ok (.iconst 1, 1) := by decide +kernel
theorem dL_law_732 : decode cL_law 732 = .ok (.iadd, 1) := by decide +kernel
theorem dL_law_733 : decode cL_law 733 = .ok (.iaload, 1) := by decide +kernel
theorem dL_law_734 : decode cL_law 734 = .ok (.aload_n 0, 1) := by decide +kernel
theorem dL_law_735 : decode cL_law 735 = .ok (.iload_n 3, 1) := by decide +kernel
theorem dL_law_736 : decode cL_law 736 = .ok (.iconst 2, 1) := by decide +kernel
theorem dL_law_737 : decode cL_law 737 = .ok (.iadd, 1) := by decide +kernel
theorem dL_law_738 : decode cL_law 738 = .ok (.iaload, 1) := by decide +kernel
theorem dL_law_739 : decode cL_law 739 = .ok (.aload_n 0, 1) := by decide +kernel
theorem dL_law_740 : decode cL_law 740 = .ok (.iload_n 3, 1) := by decide +kernel
theorem dL_law_741 : decode cL_law 741 = .ok (.iconst 3, 1) := by decide +kernel
theorem dL_law_742 : decode cL_law 742 = .ok (.iadd, 1) := by decide +kernel
theorem dL_law_743 : decode cL_law 743 = .ok (.iaload, 1) := by decide +kernel
theorem dL_law_744 : decode cL_law 744 = .ok (.invokevirtual 90, 3) := by decide +kernel
theorem dL_law_747 : decode cL_law 747 = .ok (.if_icmp .eq 289, 3) := by decide +kernel
theorem dL_law_750 : decode cL_law 750 = .ok (.iconst 0, 1) := by decide +kernel
theorem dL_law_751 : decode cL_law 751 = .ok (.ireturn, 1) := by decide +kernel
theorem dL_law_752 : decode cL_law 752 = .ok (.aload_n 1, 1) := by decide +kernel
theorem dL_law_753 : decode cL_law 753 = .ok (.aload_n 0, 1) := by decide +kernel
theorem dL_law_754 : decode cL_law 754 = .ok (.iload_n 3, 1) := by decide +kernel
theorem dL_law_755 : decode cL_law 755 = .ok (.iconst 1, 1) := by decide +kernel
theorem dL_law_756 : decode cL_law 756 = .ok (.iadd, 1) := by decide +kernel
theorem dL_law_757 : decode cL_law 757 = .ok (.iaload, 1) := by decide +kernel
theorem dL_law_758 : decode cL_law 758 = .ok (.invokevirtual 91, 3) := by decide +kernel
theorem dL_law_761 : decode cL_law 761 = .ok (.aload_n 2, 1) := by decide +kernel
theorem dL_law_762 : decode cL_law 762 = .ok (.aload_n 0, 1) := by decide +kernel
theorem dL_law_763 : decode cL_law 763 = .ok (.iload_n 3, 1) := by decide +kernel
theorem dL_law_764 : decode cL_law 764 = .ok (.iconst 1, 1) := by decide +kernel
theorem dL_law_765 : decode cL_law 765 = .ok (.iadd, 1) := by decide +kernel
theorem dL_law_766 : decode cL_law 766 = .ok (.iaload, 1) := by decide +kernel
theorem dL_law_767 : decode cL_law 767 = .ok (.invokevirtual 94, 3) := by decide +kernel
theorem dL_law_770 : decode cL_law 770 = .ok (.if_icmp .eq 266, 3) := by decide +kernel
theorem dL_law_773 : decode cL_law 773 = .ok (.iconst 0, 1) := by decide +kernel
theorem dL_law_774 : decode cL_law 774 = .ok (.ireturn, 1) := by decide +kernel
theorem dL_law_775 : decode cL_law 775 = .ok (.aload_n 1, 1) := by decide +kernel
theorem dL_law_776 : decode cL_law 776 = .ok (.aload_n 0, 1) := by decide +kernel
theorem dL_law_777 : decode cL_law 777 = .ok (.iload_n 3, 1) := by decide +kernel
theorem dL_law_778 : decode cL_law 778 = .ok (.iconst 1, 1) := by decide +kernel
theorem dL_law_779 : decode cL_law 779 = .ok (.iadd, 1) := by decide +kernel
theorem dL_law_780 : decode cL_law 780 = .ok (.iaload, 1) := by decide +kernel
theorem dL_law_781 : decode cL_law 781 = .ok (.aload_n 0, 1) := by decide +kernel
theorem dL_law_782 : decode cL_law 782 = .ok (.iload_n 3, 1) := by decide +kernel
theorem dL_law_783 : decode cL_law 783 = .ok (.iconst 2, 1) := by decide +kernel
theorem dL_law_784 : decode cL_law 784 = .ok (.iadd, 1) := by decide +kernel
theorem dL_law_785 : decode cL_law 785 = .ok (.iaload, 1) := by decide +kernel
theorem dL_law_786 : decode cL_law 786 = .ok (.aload_n 0, 1) := by decide +kernel
theorem dL_law_787 : decode cL_law 787 = .ok (.iload_n 3, 1) := by decide +kernel
theorem dL_law_788 : decode cL_law 788 = .ok (.iconst 3, 1) := by decide +kernel
theorem dL_law_789 : decode cL_law 789 = .ok (.iadd, 1) := by decide +kernel
theorem dL_law_790 : decode cL_law 790 = .ok (.iaload, 1) := by decide +kernel
theorem dL_law_791 : decode cL_law 791 = .ok (.invokevirtual 95, 3) := by decide +kernel
theorem dL_law_794 : decode cL_law 794 = .ok (.aload_n 2, 1) := by decide +kernel
theorem dL_law_795 : decode cL_law 795 = .ok (.aload_n 0, 1) := by decide +kernel
theorem dL_law_796 : decode cL_law 796 = .ok (.iload_n 3, 1) := by decide +kernel
theorem dL_law_797 : decode cL_law 797 = .ok (.iconst 1, 1) := by decide +kernel
theorem dL_law_798 : decode cL_law 798 = .ok (.iadd, 1) := by decide +kernel
theorem dL_law_799 : decode cL_law 799 = .ok (.iaload, 1) := by decide +kernel
theorem dL_law_800 : decode cL_law 800 = .ok (.aload_n 0, 1) := by decide +kernel
theorem dL_law_801 : decode cL_law 801 = .ok (.iload_n 3, 1) := by decide +kernel
theorem dL_law_802 : decode cL_law 802 = .ok (.iconst 2, 1) := by decide +kernel
theorem dL_law_803 : decode cL_law 803 = .ok (.iadd, 1) := by decide +kernel
theorem dL_law_804 : decode cL_law 804 = .ok (.iaload, 1) := by decide +kernel
theorem dL_law_805 : decode cL_law 805 = .ok (.aload_n 0, 1) := by decide +kernel
theorem dL_law_806 : decode cL_law 806 = .ok (.iload_n 3, 1) := by decide +kernel
theorem dL_law_807 : decode cL_law 807 = .ok (.iconst 3, 1) := by decide +kernel
theorem dL_law_808 : decode cL_law 808 = .ok (.iadd, 1) := by decide +kernel
theorem dL_law_809 : decode cL_law 809 = .ok (.iaload, 1) := by decide +kernel
theorem dL_law_810 : decode cL_law 810 = .ok (.invokevirtual 98, 3) := by decide +kernel
theorem dL_law_813 : decode cL_law 813 = .ok (.if_icmp .eq 223, 3) := by decide +kernel
theorem dL_law_816 : decode cL_law 816 = .ok (.iconst 0, 1) := by decide +kernel
theorem dL_law_817 : decode cL_law 817 = .ok (.ireturn, 1) := by decide +kernel
theorem dL_law_818 : decode cL_law 818 = .ok (.aload_n 1, 1) := by decide +kernel
theorem dL_law_819 : decode cL_law 819 = .ok (.aload_n 0, 1) := by decide +kernel
theorem dL_law_820 : decode cL_law 820 = .ok (.iload_n 3, 1) := by decide +kernel
theorem dL_law_821 : decode cL_law 821 = .ok (.iconst 1, 1) := by decide +kernel
theorem dL_law_822 : decode cL_law 822 = .ok (.iadd, 1) := by decide +kernel
theorem dL_law_823 : decode cL_law 823 = .ok (.iaload, 1) := by decide +kernel
theorem dL_law_824 : decode cL_law 824 = .ok (.aload_n 0, 1) := by decide +kernel
theorem dL_law_825 : decode cL_law 825 = .ok (.iload_n 3, 1) := by decide +kernel
theorem dL_law_826 : decode cL_law 826 = .ok (.iconst 2, 1) := by decide +kernel
theorem dL_law_827 : decode cL_law 827 = .ok (.iadd, 1) := by decide +kernel
theorem dL_law_828 : decode cL_law 828 = .ok (.iaload, 1) := by decide +kernel
theorem dL_law_829 : decode cL_law 829 = .ok (.invokevirtual 99, 3) := by decide +kernel
theorem dL_law_832 : decode cL_law 832 = .ok (.aload_n 2, 1) := by decide +kernel
theorem dL_law_833 : decode cL_law 833 = .ok (.aload_n 0, 1) := by decide +kernel
theorem dL_law_834 : decode cL_law 834 = .ok (.iload_n 3, 1) := by decide +kernel
theorem dL_law_835 : decode cL_law 835 = .ok (.iconst 1, 1) := by decide +kernel
theorem dL_law_836 : decode cL_law 836 = .ok (.iadd, 1) := by decide +kernel
theorem dL_law_837 : decode cL_law 837 = .ok (.iaload, 1) := by decide +kernel
theorem dL_law_838 : decode cL_law 838 = .ok (.aload_n 0, 1) := by decide +kernel
theorem dL_law_839 : decode cL_law 839 = .ok (.iload_n 3, 1) := by decide +kernel
theorem dL_law_840 : decode cL_law 840 = .ok (.iconst 2, 1) := by decide +kernel
theorem dL_law_841 : decode cL_law 841 = .ok (.iadd, 1) := by decide +kernel
theorem dL_law_842 : decode cL_law 842 = .ok (.iaload, 1) := by decide +kernel
theorem dL_law_843 : decode cL_law 843 = .ok (.invokevirtual 102, 3) := by decide +kernel
theorem dL_law_846 : decode cL_law 846 = .ok (.if_icmp .eq 190, 3) := by decide +kernel
theorem dL_law_849 : decode cL_law 849 = .ok (.iconst 0, 1) := by decide +kernel
theorem dL_law_850 : decode cL_law 850 = .ok (.ireturn, 1) := by decide +kernel
theorem dL_law_851 : decode cL_law 851 = .ok (.aload_n 1, 1) := by decide +kernel
theorem dL_law_852 : decode cL_law 852 = .ok (.aload_n 0, 1) := by decide +kernel
theorem dL_law_853 : decode cL_law 853 = .ok (.iload_n 3, 1) := by decide +kernel
theorem dL_law_854 : decode cL_law 854 = .ok (.iconst 1, 1) := by decide +kernel
theorem dL_law_855 : decode cL_law 855 = .ok (.iadd, 1) := by decide +kernel
theorem dL_law_856 : decode cL_law 856 = .ok (.iaload, 1) := by decide +kernel
theorem dL_law_857 : decode cL_law 857 = .ok (.invokevirtual 103, 3) := by decide +kernel
theorem dL_law_860 : decode cL_law 860 = .ok (.aload_n 2, 1) := by decide +kernel
theorem dL_law_861 : decode cL_law 861 = .ok (.aload_n 0, 1) := by decide +kernel
theorem dL_law_862 : decode cL_law 862 = .ok (.iload_n 3, 1) := by decide +kernel
theorem dL_law_863 : decode cL_law 863 = .ok (.iconst 1, 1) := by decide +kernel
theorem dL_law_864 : decode cL_law 864 = .ok (.iadd, 1) := by decide +kernel
theorem dL_law_865 : decode cL_law 865 = .ok (.iaload, 1) := by decide +kernel
theorem dL_law_866 : decode cL_law 866 = .ok (.invokevirtual 106, 3) := by decide +kernel
theorem dL_law_869 : decode cL_law 869 = .ok (.if_icmp .eq 167, 3) := by decide +kernel
theorem dL_law_872 : decode cL_law 872 = .ok (.iconst 0, 1) := by decide +kernel
theorem dL_law_873 : decode cL_law 873 = .ok (.ireturn, 1) := by decide +kernel
theorem dL_law_874 : decode cL_law 874 = .ok (.aload_n 1, 1) := by decide +kernel
theorem dL_law_875 : decode cL_law 875 = .ok (.aload_n 0, 1) := by decide +kernel
theorem dL_law_876 : decode cL_law 876 = .ok (.iload_n 3, 1) := by decide +kernel
theorem dL_law_877 : decode cL_law 877 = .ok (.iconst 1, 1) := by decide +kernel
theorem dL_law_878 : decode cL_law 878 = .ok (.iadd, 1) := by decide +kernel
theorem dL_law_879 : decode cL_law 879 = .ok (.iaload, 1) := by decide +kernel
theorem dL_law_880 : decode cL_law 880 = .ok (.invokevirtual 107, 3) := by decide +kernel
theorem dL_law_883 : decode cL_law 883 = .ok (.aload_n 2, 1) := by decide +kernel
theorem dL_law_884 : decode cL_law 884 = .ok (.aload_n 0, 1) := by decide +kernel
theorem dL_law_885 : decode cL_law 885 = .ok (.iload_n 3, 1) := by decide +kernel
theorem dL_law_886 : decode cL_law 886 = .ok (.iconst 1, 1) := by decide +kernel
theorem dL_law_887 : decode cL_law 887 = .ok (.iadd, 1) := by decide +kernel
theorem dL_law_888 : decode cL_law 888 = .ok (.iaload, 1) := by decide +kernel
theorem dL_law_889 : decode cL_law 889 = .ok (.invokevirtual 110, 3) := by decide +kernel
theorem dL_law_892 : decode cL_law 892 = .ok (.if_icmp .eq 144, 3) := by decide +kernel
theorem dL_law_895 : decode cL_law 895 = .ok (.iconst 0, 1) := by decide +kernel
theorem dL_law_896 : decode cL_law 896 = .ok (.ireturn, 1) := by decide +kernel
theorem dL_law_897 : decode cL_law 897 = .ok (.aload_n 1, 1) := by decide +kernel
theorem dL_law_898 : decode cL_law 898 = .ok (.aload_n 0, 1) := by decide +kernel
theorem dL_law_899 : decode cL_law 899 = .ok (.iload_n 3, 1) := by decide +kernel
theorem dL_law_900 : decode cL_law 900 = .ok (.iconst 1, 1) := by decide +kernel
theorem dL_law_901 : decode cL_law 901 = .ok (.iadd, 1) := by decide +kernel
theorem dL_law_902 : decode cL_law 902 = .ok (.iaload, 1) := by decide +kernel
theorem dL_law_903 : decode cL_law 903 = .ok (.invokevirtual 111, 3) := by decide +kernel
theorem dL_law_906 : decode cL_law 906 = .ok (.aload_n 2, 1) := by decide +kernel
theorem dL_law_907 : decode cL_law 907 = .ok (.aload_n 0, 1) := by decide +kernel
theorem dL_law_908 : decode cL_law 908 = .ok (.iload_n 3, 1) := by decide +kernel
theorem dL_law_909 : decode cL_law 909 = .ok (.iconst 1, 1) := by decide +kernel
theorem dL_law_910 : decode cL_law 910 = .ok (.iadd, 1) := by decide +kernel
theorem dL_law_911 : decode cL_law 911 = .ok (.iaload, 1) := by decide +kernel
theorem dL_law_912 : decode cL_law 912 = .ok (.invokevirtual 114, 3) := by decide +kernel
theorem dL_law_915 : decode cL_law 915 = .ok (.if_icmp .eq 121, 3) := by decide +kernel
theorem dL_law_918 : decode cL_law 918 = .ok (.iconst 0, 1) := by decide +kernel
theorem dL_law_919 : decode cL_law 919 = .ok (.ireturn, 1) := by decide +kernel
theorem dL_law_920 : decode cL_law 920 = .ok (.aload_n 1, 1) := by decide +kernel
theorem dL_law_921 : decode cL_law 921 = .ok (.aload_n 0, 1) := by decide +kernel
theorem dL_law_922 : decode cL_law 922 = .ok (.iload_n 3, 1) := by decide +kernel
theorem dL_law_923 : decode cL_law 923 = .ok (.iconst 1, 1) := by decide +kernel
theorem dL_law_924 : decode cL_law 924 = .ok (.iadd, 1) := by decide +kernel
theorem dL_law_925 : decode cL_law 925 = .ok (.iaload, 1) := by decide +kernel
theorem dL_law_926 : decode cL_law 926 = .ok (.aload_n 0, 1) := by decide +kernel
theorem dL_law_927 : decode cL_law 927 = .ok (.iload_n 3, 1) := by decide +kernel
theorem dL_law_928 : decode cL_law 928 = .ok (.iconst 2, 1) := by decide +kernel
theorem dL_law_929 : decode cL_law 929 = .ok (.iadd, 1) := by decide +kernel
theorem dL_law_930 : decode cL_law 930 = .ok (.iaload, 1) := by decide +kernel
theorem dL_law_931 : decode cL_law 931 = .ok (.invokevirtual 115, 3) := by decide +kernel
theorem dL_law_934 : decode cL_law 934 = .ok (.aload_n 2, 1) := by decide +kernel
theorem dL_law_935 : decode cL_law 935 = .ok (.aload_n 0, 1) := by decide +kernel
theorem dL_law_936 : decode cL_law 936 = .ok (.iload_n 3, 1) := by decide +kernel
theorem dL_law_937 : decode cL_law 937 = .ok (.iconst 1, 1) := by decide +kernel
theorem dL_law_938 : decode cL_law 938 = .ok (.iadd, 1) := by decide +kernel
theorem dL_law_939 : decode cL_law 939 = .ok (.iaload, 1) := by decide +kernel
theorem dL_law_940 : decode cL_law 940 = .ok (.aload_n 0, 1) := by decide +kernel
theorem dL_law_941 : decode cL_law 941 = .ok (.iload_n 3, 1) := by decide +kernel
theorem dL_law_942 : decode cL_law 942 = .ok (.iconst 2, 1) := by decide +kernel
theorem dL_law_943 : decode cL_law 943 = .ok (.iadd, 1) := by decide +kernel
theorem dL_law_944 : decode cL_law 944 = .ok (.iaload, 1) := by decide +kernel
theorem dL_law_945 : decode cL_law 945 = .ok (.invokevirtual 118, 3) := by decide +kernel
theorem dL_law_948 : decode cL_law 948 = .ok (.if_icmp .eq 88, 3) := by decide +kernel
theorem dL_law_951 : decode cL_law 951 = .ok (.iconst 0, 1) := by decide +kernel
theorem dL_law_952 : decode cL_law 952 = .ok (.ireturn, 1) := by decide +kernel
theorem dL_law_953 : decode cL_law 953 = .ok (.aload_n 1, 1) := by decide +kernel
theorem dL_law_954 : decode cL_law 954 = .ok (.aload_n 0, 1) := by decide +kernel
theorem dL_law_955 : decode cL_law 955 = .ok (.iload_n 3, 1) := by decide +kernel
theorem dL_law_956 : decode cL_law 956 = .ok (.iconst 1, 1) := by decide +kernel
theorem dL_law_957 : decode cL_law 957 = .ok (.iadd, 1) := by decide +kernel
theorem dL_law_958 : decode cL_law 958 = .ok (.iaload, 1) := by decide +kernel
theorem dL_law_959 : decode cL_law 959 = .ok (.invokevirtual 119, 3) := by decide +kernel
theorem dL_law_962 : decode cL_law 962 = .ok (.aload_n 2, 1) := by decide +kernel
theorem dL_law_963 : decode cL_law 963 = .ok (.aload_n 0, 1) := by decide +kernel
theorem dL_law_964 : decode cL_law 964 = .ok (.iload_n 3, 1) := by decide +kernel
theorem dL_law_965 : decode cL_law 965 = .ok (.iconst 1, 1) := by decide +kernel
theorem dL_law_966 : decode cL_law 966 = .ok (.iadd, 1) := by decide +kernel
theorem dL_law_967 : decode cL_law 967 = .ok (.iaload, 1) := by decide +kernel
theorem dL_law_968 : decode cL_law 968 = .ok (.invokevirtual 122, 3) := by decide +kernel
theorem dL_law_971 : decode cL_law 971 = .ok (.if_icmp .eq 65, 3) := by decide +kernel
theorem dL_law_974 : decode cL_law 974 = .ok (.iconst 0, 1) := by decide +kernel
theorem dL_law_975 : decode cL_law 975 = .ok (.ireturn, 1) := by decide +kernel
theorem dL_law_976 : decode cL_law 976 = .ok (.aload_n 1, 1) := by decide +kernel
theorem dL_law_977 : decode cL_law 977 = .ok (.aload_n 0, 1) := by decide +kernel
theorem dL_law_978 : decode cL_law 978 = .ok (.iload_n 3, 1) := by decide +kernel
theorem dL_law_979 : decode cL_law 979 = .ok (.iconst 1, 1) := by decide +kernel
theorem dL_law_980 : decode cL_law 980 = .ok (.iadd, 1) := by decide +kernel
theorem dL_law_981 : decode cL_law 981 = .ok (.iaload, 1) := by decide +kernel
theorem dL_law_982 : decode cL_law 982 = .ok (.invokevirtual 123, 3) := by decide +kernel
theorem dL_law_985 : decode cL_law 985 = .ok (.aload_n 2, 1) := by decide +kernel
theorem dL_law_986 : decode cL_law 986 = .ok (.aload_n 0, 1) := by decide +kernel
theorem dL_law_987 : decode cL_law 987 = .ok (.iload_n 3, 1) := by decide +kernel
theorem dL_law_988 : decode cL_law 988 = .ok (.iconst 1, 1) := by decide +kernel
theorem dL_law_989 : decode cL_law 989 = .ok (.iadd, 1) := by decide +kernel
theorem dL_law_990 : decode cL_law 990 = .ok (.iaload, 1) := by decide +kernel
theorem dL_law_991 : decode cL_law 991 = .ok (.invokevirtual 126, 3) := by decide +kernel
theorem dL_law_994 : decode cL_law 994 = .ok (.if_icmp .eq 42, 3) := by decide +kernel
theorem dL_law_997 : decode cL_law 997 = .ok (.iconst 0, 1) := by decide +kernel
theorem dL_law_998 : decode cL_law 998 = .ok (.ireturn, 1) := by decide +kernel
theorem dL_law_999 : decode cL_law 999 = .ok (.aload_n 1, 1) := by decide +kernel
theorem dL_law_1000 : decode cL_law 1000 = .ok (.aload_n 0, 1) := by decide +kernel
theorem dL_law_1001 : decode cL_law 1001 = .ok (.iload_n 3, 1) := by decide +kernel
theorem dL_law_1002 : decode cL_law 1002 = .ok (.iconst 1, 1) := by decide +kernel
theorem dL_law_1003 : decode cL_law 1003 = .ok (.iadd, 1) := by decide +kernel
theorem dL_law_1004 : decode cL_law 1004 = .ok (.iaload, 1) := by decide +kernel
theorem dL_law_1005 : decode cL_law 1005 = .ok (.invokevirtual 127, 3) := by decide +kernel
theorem dL_law_1008 : decode cL_law 1008 = .ok (.aload_n 2, 1) := by decide +kernel
theorem dL_law_1009 : decode cL_law 1009 = .ok (.aload_n 0, 1) := by decide +kernel
theorem dL_law_1010 : decode cL_law 1010 = .ok (.iload_n 3, 1) := by decide +kernel
theorem dL_law_1011 : decode cL_law 1011 = .ok (.iconst 1, 1) := by decide +kernel
theorem dL_law_1012 : decode cL_law 1012 = .ok (.iadd, 1) := by decide +kernel
theorem dL_law_1013 : decode cL_law 1013 = .ok (.iaload, 1) := by decide +kernel
theorem dL_law_1014 : decode cL_law 1014 = .ok (.invokevirtual 130, 3) := by decide +kernel
theorem dL_law_1017 : decode cL_law 1017 = .ok (.if_icmp .eq 19, 3) := by decide +kernel
theorem dL_law_1020 : decode cL_law 1020 = .ok (.iconst 0, 1) := by decide +kernel
theorem dL_law_1021 : decode cL_law 1021 = .ok (.ireturn, 1) := by decide +kernel
theorem dL_law_1022 : decode cL_law 1022 = .ok (.aload_n 1, 1) := by decide +kernel
theorem dL_law_1023 : decode cL_law 1023 = .ok (.invokevirtual 131, 3) := by decide +kernel
theorem dL_law_1026 : decode cL_law 1026 = .ok (.aload_n 2, 1) := by decide +kernel
theorem dL_law_1027 : decode cL_law 1027 = .ok (.invokevirtual 135, 3) := by decide +kernel
theorem dL_law_1030 : decode cL_law 1030 = .ok (.lcmp, 1) := by decide +kernel
theorem dL_law_1031 : decode cL_law 1031 = .ok (.ifCond .eq 5, 3) := by decide +kernel
theorem dL_law_1034 : decode cL_law 1034 = .ok (.iconst 0, 1) := by decide +kernel
theorem dL_law_1035 : decode cL_law 1035 = .ok (.ireturn, 1) := by decide +kernel
theorem dL_law_1036 : decode cL_law 1036 = .ok (.iinc 3 6, 3) := by decide +kernel
theorem dL_law_1039 : decode cL_law 1039 = .ok (.goto (-1021), 3) := by decide +kernel
theorem dL_law_1042 : decode cL_law 1042 = .ok (.iconst 1, 1) := by decide +kernel
end
section
theorem dL_law_1043 : decode cL_law 1043 = .ok (.ireturn, 1) := by decide +kernel
end
section
/-! WHOLE WORLDS: an object and all that it holds, at addresses q 0 .. q (N - 1); what they hold is read off one pair of functions (rows of ints, rows of longs) -/
abbrev St : Type := (Nat → Nat → Int32) × (Nat → Nat → Int64)
def upI (S : St) (k j : Nat) (v : Int32) : St := (va_up S.1 k (upd (S.1 k) j v), S.2)
def upL (S : St) (k j : Nat) (v : Int64) : St := (S.1, va_up S.2 k (vp_updL (S.2 k) j v))
abbrev Cf : Type := Nat → (Nat → Int32) → (Nat → Int64) → va_E
def wsOf (N : Nat) (cell : Cf) (q : Nat → Nat) (S : St) : va_W := (List.range N).map (fun k => (q k, cell k (S.1 k) (S.2 k)))
abbrev tyz (T : Nat → ClassId) : List (ClassId × FieldType) := [(T 0, .int), (T 1, .long), (T 2, .byte), (T 3, .boolean)]
theorem wsOf_at {N : Nat} {cell : Cf} {q : Nat → Nat} {S : St} {k : Nat} (hk : k < N) : (wsOf N cell q S)[k]? = some (q k, cell k (S.1 k) (S.2 k)) := by
  simp [wsOf, hk]
theorem wsOf_len {N : Nat} {cell : Cf} {q : Nat → Nat} {S : St} : (wsOf N cell q S).length = N := by simp [wsOf]
theorem wsOf_set {N : Nat} {cell : Cf} {q : Nat → Nat} {S S' : St} {k : Nat} {e : va_E} (he : cell k (S'.1 k) (S'.2 k) = e) (h1 : ∀ j, j ≠ k → S'.1 j = S.1 j) (h2 : ∀ j, j ≠ k → S'.2 j = S.2 j) : (wsOf N cell q S).set k (q k, e) = wsOf N cell q S' := by
  subst he
  apply List.ext_getElem?
  intro j
  rw [List.getElem?_set, wsOf_len]
  by_cases hj : k = j
  · subst hj
    by_cases hk : k < N
    · rw [if_pos rfl, if_pos hk, wsOf_at hk]
    · rw [if_pos rfl, if_neg hk, List.getElem?_eq_none (by rw [wsOf_len]; omega)]
  · rw [if_neg hj]
    by_cases hk : j < N
    · rw [wsOf_at hk, wsOf_at hk, h1 j (Ne.symm hj), h2 j (Ne.symm hj)]
    · rw [List.getElem?_eq_none (by rw [wsOf_len]; omega), List.getElem?_eq_none (by rw [wsOf_len]; omega)]
theorem upI_1 {S : St} {k j : Nat} {v : Int32} : (upI S k j v).1 k = upd (S.1 k) j v := by simp [upI, va_up]
theorem upI_o {S : St} {k j : Nat} {v : Int32} : ∀ i, i ≠ k → (upI S k j v).1 i = S.1 i := fun i h => by simp [upI, va_up, h]
theorem upL_2 {S : St} {k j : Nat} {v : Int64} : (upL S k j v).2 k = vp_updL (S.2 k) j v := by simp [upL, va_up]
theorem upL_o {S : St} {k j : Nat} {v : Int64} : ∀ i, i ≠ k → (upL S k j v).2 i = S.2 i := fun i h => by simp [upL, va_up, h]
theorem wsOf_D {N : Nat} {cell : Cf} {q : Nat → Nat} {S S' : St} {A B : Nat → Prop} (h : va_D A (wsOf N cell q S)) (hB : ∀ k, k < N → B (q k)) : va_D B (wsOf N cell q S') := by
  have hlt : ∀ {S : St} {i : Nat} {x : Nat × va_E}, (wsOf N cell q S)[i]? = some x → i < N := fun h => by
    have := (List.getElem?_eq_some_iff.mp h).1
    rwa [wsOf_len] at this
  refine ⟨fun i j x y hi hj e => ?_, fun k x hk => ?_⟩
  · have li := hlt hi
    have lj := hlt hj
    rw [wsOf_at li] at hi
    rw [wsOf_at lj] at hj
    cases hi
    cases hj
    exact h.1 i j _ _ (wsOf_at li) (wsOf_at lj) e
  · have lk := hlt hk
    rw [wsOf_at lk] at hk
    cases hk
    exact hB k lk
theorem wsOf_A {N : Nat} {cell : Cf} {q : Nat → Nat} {S : St} {A : Nat → Prop} (h : va_D A (wsOf N cell q S)) {k : Nat} (hk : k < N) : A (q k) := h.2 k _ (wsOf_at hk)
/-- what stands outside of the world and is only read: texts, statics, links of nest mates -/
def XE (Ex : (Nat → Prop) → State → Heap → Prop) : Prop :=
  (∀ (A : Nat → Prop) (u U : State) (H : Heap), u.WarmedH U.vm → Ex A u H → Ex A U H) ∧ (∀ (A : Nat → Prop) (U : State) (H H1 : Heap), (∀ a : Nat, a < H.size → ¬ A a → H1[a]? = H[a]?) → Ex A U H → Ex A U H1) ∧ ∀ (A B : Nat → Prop) (U : State) (H : Heap), (∀ q, B q → A q) → Ex A U H → Ex B U H
def Xw (D : va_G) (N : Nat) (cell : Cf) (q : Nat → Nat) (T : Nat → ClassId) (Ex : (Nat → Prop) → State → Heap → Prop) (A : Nat → Prop) (s : State) (S : St) (H : Heap) (locs : List Loc) : Prop :=
  va_K D vwCl (tyz T) s ∧ va_P D vwCl (wsOf N cell q S) H ∧ va_D A (wsOf N cell q S) ∧ va_S A s.heap H locs ∧ Ex A s s.heap
def XB (p : Program) (s : State) (m : MethodId) (args : Array Value) (meth : Method) (c : Code) (A : Nat → Prop) (cc : ByteArray) (nL : Nat) (ret : Option FieldType) (own : String) : Prop :=
  p.tables.exec = Jvm.exec ∧ c.code = cc ∧ meth.sig.returnType = ret ∧ c.maxLocals = nL ∧ s.vm.findClass own = some m.cls ∧ (∀ w ∈ UU, w.before args s = true) ∧ meth.locks = false ∧ (∀ q : Nat, s.heap.size ≤ q → A q)
def XPre (D : va_G) (N : Nat) (cell : Cf) (q : Nat → Nat) (T : Nat → ClassId) (Ex : (Nat → Prop) → State → Heap → Prop) (S : St) (sz : Nat) (U : State) : Prop :=
  U.heap.size = sz ∧ va_P D vwCl (wsOf N cell q S) U.heap ∧ va_K D vwCl (tyz T) U ∧ va_D (fun _ => True) (wsOf N cell q S) ∧ Ex (va_A (wsOf N cell q S) sz) U U.heap
def XQ (D : va_G) (N : Nat) (cell : Cf) (q : Nat → Nat) (T : Nat → ClassId) (S' : St) (rv : Option Value) (A : Nat → Prop) : Array Value → State → Outcome → State → Prop := fun _ st oc t =>
  (oc = .returned rv ∧ va_P D vwCl (wsOf N cell q S') t.heap ∧ va_K D vwCl (tyz T) t) ∧ va_F A st t
def XMet (l : Launch) (D : va_G) (N : Nat) (cell : Cf) (q : Nat → Nat) (T : Nat → ClassId) (Ex : (Nat → Prop) → State → Heap → Prop) (y : MethodName) (b : ByteArray) (n : Nat) (ret : Option FieldType) (rm : Room) (av : List Value) (S : St) (rv : Option Value) (S' : St) : Prop :=
  ∀ sz : Nat, Met l y (wsY y b n ret) rm (va_Pc av (XPre D N cell q T Ex S sz)) (XQ D N cell q T S' rv (va_A (wsOf N cell q S) sz)) 0 0 (va_A (wsOf N cell q S) sz)
/-- the goal at a place of a body -/
abbrev XG (p : Program) (l : Launch) (e : Env) (rm : Room) (s : State) (m : MethodId) (args : Array Value) (below : List Frame) (meth : Method) (c : Code) (D : va_G) (N : Nat) (cell : Cf) (q : Nat → Nat) (T : Nat → ClassId) (A : Nat → Prop) (S' : St) (rv : Option Value) (H : Heap) (locs : List Loc) (pc : Nat) (ls : Array Slot) (st : List Value) : Prop :=
  W p l e rm s m args below meth c H locs 0 0 (MQ below (XQ D N cell q T S' rv A) args s 0 0 A) (F0 m pc ls st)
/-- pure words: what the rows of a body read -/
def x_ld {α β : Type} (f : Nat → α) (n : Nat) (i : Int32) (k : α → Option β) : Option β := if i < 0 ∨ n ≤ i.toNatClampNeg then none else k (f i.toNatClampNeg)
def x_gd {β : Type} (n : Nat) (i : Int32) (k : Option β) : Option β := if i < 0 ∨ n ≤ i.toNatClampNeg then none else k
def x_nz {α β : Type} (c : Prop) (d : Decidable c) (k : Option β) : Option β := @ite _ c d none k
def x_lt {α β : Type} (a : α) (k : α → Option β) : Option β := k a
def x_bd {α β γ : Type} (o : Option (α × β)) (k : α → β → Option γ) : Option γ := match o with
  | none => none
  | some z => k z.1 z.2
def x_bv {β γ : Type} (o : Option β) (k : β → Option γ) : Option γ := match o with
  | none => none
  | some z => k z
theorem x_ld_some {α β : Type} {f : Nat → α} {n : Nat} {i : Int32} {k : α → Option β} {r : β} (h : x_ld f n i k = some r) : vp_in i n ∧ k (f i.toNatClampNeg) = some r := by
  unfold x_ld at h
  by_cases hc : i < 0 ∨ n ≤ i.toNatClampNeg
  · rw [if_pos hc] at h; cases h
  · rw [if_neg hc] at h; exact ⟨hc, h⟩
theorem x_gd_some {β : Type} {n : Nat} {i : Int32} {k : Option β} {r : β} (h : x_gd n i k = some r) : vp_in i n ∧ k = some r := by
  unfold x_gd at h
  by_cases hc : i < 0 ∨ n ≤ i.toNatClampNeg
  · rw [if_pos hc] at h; cases h
  · rw [if_neg hc] at h; exact ⟨hc, h⟩
theorem x_ng {β : Type} {c : Prop} {d : Decidable c} {k : Option β} {r : β} (h : @ite _ c d none k = some r) : ¬ c ∧ k = some r := by
  by_cases hc : c
  · rw [if_pos hc] at h; cases h
  · rw [if_neg hc] at h; exact ⟨hc, h⟩
theorem x_bd_some {α β γ : Type} {o : Option (α × β)} {k : α → β → Option γ} {r : γ} (h : x_bd o k = some r) : ∃ v S, o = some (v, S) ∧ k v S = some r := by
  cases o with
  | none => cases h
  | some z => exact ⟨z.1, z.2, rfl, h⟩
theorem x_bv_some {β γ : Type} {o : Option β} {k : β → Option γ} {r : γ} (h : x_bv o k = some r) : ∃ S, o = some S ∧ k S = some r := by
  cases o with
  | none => cases h
  | some z => exact ⟨z, rfl, h⟩
theorem x_pos {γ : Type} {c : Prop} {d : Decidable c} {a b r : γ} (hc : c) (h : @ite _ c d a b = r) : a = r := by rwa [if_pos hc] at h
theorem x_neg {γ : Type} {c : Prop} {d : Decidable c} {a b r : γ} (hc : ¬ c) (h : @ite _ c d a b = r) : b = r := by rwa [if_neg hc] at h
def x_nr {β : Type} (v : Int32) (k : Option β) : Option β := if v &&& 1 = v then k else none
theorem x_nr_some {β : Type} {v : Int32} {k : Option β} {r : β} (h : x_nr v k = some r) : narrow .boolean (.int v) = .int v ∧ k = some r := by
  unfold x_nr at h
  by_cases hc : v &&& 1 = v
  · rw [if_pos hc] at h; exact ⟨by show Value.int (v &&& 1) = .int v; rw [hc], h⟩
  · rw [if_neg hc] at h; cases h
theorem xi_1 {x : Int32} : x + Int32.ofInt 1 = x + 1 := by rw [show Int32.ofInt 1 = 1 from by decide]
theorem xi_m1 {x : Int32} : x + Int32.ofInt (-1) = x + (-1) := by rw [show Int32.ofInt (-1) = -1 from by decide]
theorem xi_6 {x : Int32} : x + Int32.ofInt 6 = x + 6 := by rw [show Int32.ofInt 6 = 6 from by decide]
def x_ush (x y : Int32) : Int32 := (x.toUInt32 >>> (y.toUInt32 &&& Int32.toUInt32 31)).toInt32
def x_lushr (x : Int64) (y : Int32) : Int64 := (x.toUInt64 >>> (y.toInt64.toUInt64 &&& Int64.toUInt64 63)).toInt64
def x_lshr (x : Int64) (y : Int32) : Int64 := x >>> (y.toInt64 &&& 63)
def x_lshl (x : Int64) (y : Int32) : Int64 := x <<< (y.toInt64 &&& 63)
def x_i2b (x : Int32) : Int32 := x.toInt8.toInt32
theorem x_ne {x k : Int32} {z : Int} (h : ¬ x = k) (hk : k.toInt = z) : ¬ x.toInt = z := fun e => h (Int32.toInt_inj.mp (e.trans hk.symm))
section XROWS
variable {p : Program} {l : Launch} {e : Env} {R : Room} {s : State} {m : MethodId} {args : Array Value} {below : List Frame} {meth : Method} {c : Code} {H : Heap} {locs : List Loc} {cells slots : Nat} {Q : State → Prop}
variable {cc : ByteArray} {nL pc : Nat} {ls : Array Slot} {rest : List Value} {D : va_G} {N : Nat} {cell : Cf} {q : Nat → Nat} {T : Nat → ClassId} {Ex : (Nat → Prop) → State → Heap → Prop} {A : Nat → Prop} {S S' : St} {ret : Option FieldType} {own : String}
theorem x_get (B : XB p s m args meth c A cc nL ret own) (hw : Xw D N cell q T Ex A s S H locs) {ref C : String} {Tb : u_T} {n ci index : Nat} (hin : ∀ w ∈ u_ws C Tb n, w ∈ UU) (k : Nat) (hk : k < N) {fs : List Value} (he : cell k (S.1 k) (S.2 k) = .inr (ci, fs)) (hc : vwCl[ci]? = some (C, Tb, n)) (j : Nat) (hj : j < n) (hlink : Cond.fieldLink own index ref (Tb j).2.1 (Tb j).2.2.1 ∈ UU) (hsame : ∀ x, s.fieldFound? (Tb j).1 (Tb j).2.1 (Tb j).2.2.1 = some x → s.fieldFound? ref (Tb j).2.1 (Tb j).2.2.1 = some x) {v : Value} (hv : fs[j]? = some v) (hdg : decode cc pc = .ok (.getfield index, 3))
    (kk : W p l e R s m args below meth c H locs cells slots Q (F0 m (pc + 3) ls (v :: rest))) : W p l e R s m args below meth c H locs cells slots Q (F0 m pc ls (.ref (q k) :: rest)) := by
  obtain ⟨hx, hb, -, -, hown, hts, -, -⟩ := B
  obtain ⟨hK, hP, -, -, -⟩ := hw
  exact va_get hx hb hts hin hown hK hP k (by rw [wsOf_at hk, he]) hc j hj (hts _ hlink) hsame hv hdg kk
theorem x_put (B : XB p s m args meth c A cc nL ret own) (hw : Xw D N cell q T Ex A s S H locs) {ref C : String} {Tb : u_T} {n ci index : Nat} (hin : ∀ w ∈ u_ws C Tb n, w ∈ UU) (ty0 : Nat → FieldType) (hty : ∀ k, k < n → parseFieldDescriptor (Tb k).2.2.1 = some (ty0 k)) (hnm : ∀ a, a < n → ∀ b, b < n → a ≠ b → (Tb a).2.1 ≠ (Tb b).2.1) (k : Nat) (hk : k < N) {fs : List Value} (he : cell k (S.1 k) (S.2 k) = .inr (ci, fs)) (hc : vwCl[ci]? = some (C, Tb, n)) (j : Nat) (hj : j < n) (hlink : Cond.fieldLink own index ref (Tb j).2.1 (Tb j).2.2.1 ∈ UU) (hsame : ∀ x, s.fieldFound? (Tb j).1 (Tb j).2.1 (Tb j).2.2.1 = some x → s.fieldFound? ref (Tb j).2.1 (Tb j).2.2.1 = some x) (hfin : (Tb j).2.2.2 = false) {ty : FieldType} {v : Value} (hd : parseFieldDescriptor (Tb j).2.2.1 = some ty) (hn : narrow ty v = v) (hfit : fits ty v = true) (hl : j < fs.length) {S1 : St} (he1 : cell k (S1.1 k) (S1.2 k) = .inr (ci, fs.set j v)) (h1 : ∀ i, i ≠ k → S1.1 i = S.1 i) (h2 : ∀ i, i ≠ k → S1.2 i = S.2 i) (hdg : decode cc pc = .ok (.putfield index, 3))
    {β : Type} {kf : St → Option β} {r : β} (hf : x_lt S1 kf = some r) (kk : ∀ (S2 : St) (H1 : Heap) (locs1 : List Loc), Xw D N cell q T Ex A s S2 H1 locs1 → kf S2 = some r → W p l e R s m args below meth c H1 locs1 cells slots Q (F0 m (pc + 3) ls rest)) : W p l e R s m args below meth c H locs cells slots Q (F0 m pc ls (v :: .ref (q k) :: rest)) := by
  obtain ⟨hx, hb, -, -, hown, hts, -, -⟩ := B
  obtain ⟨hK, hP, hD, hS, hE⟩ := hw
  refine va_put hx hb hts hin ty0 hty hnm hown hK hP hD hS k (by rw [wsOf_at hk, he]) hc j hj (hts _ hlink) hsame hfin hd hn hfit hl hdg fun H1 locs1 hP1 hD1 hS1 => ?_
  rw [wsOf_set he1 h1 h2] at hP1 hD1
  exact kk S1 H1 locs1 ⟨hK, hP1, hD1, hS1, hE⟩ hf
theorem x_iald (B : XB p s m args meth c A cc nL ret own) (hw : Xw D N cell q T Ex A s S H locs) (k : Nat) (hk : k < N) {n : Nat} (he : cell k (S.1 k) (S.2 k) = .inl (T 0, n, .inl (S.1 k))) {i : Int32} (hdg : decode cc pc = .ok (.iaload, 1))
    {β : Type} {kf : Int32 → Option β} {r : β} (hf : x_ld (S.1 k) n i kf = some r) (kk : ∀ v : Int32, kf v = some r → W p l e R s m args below meth c H locs cells slots Q (F0 m (pc + 1) ls (.int v :: rest))) : W p l e R s m args below meth c H locs cells slots Q (F0 m pc ls (.int i :: .ref (q k) :: rest)) := by
  obtain ⟨hx, hb, -⟩ := B
  obtain ⟨hK, hP, -⟩ := hw
  obtain ⟨hin, hf⟩ := x_ld_some hf
  exact va_iald hx hb hK hP k 0 (by rw [wsOf_at hk, he]) rfl hin hdg (kk _ hf)
theorem x_bald (B : XB p s m args meth c A cc nL ret own) (hw : Xw D N cell q T Ex A s S H locs) (k : Nat) (hk : k < N) {n : Nat} (he : cell k (S.1 k) (S.2 k) = .inl (T 2, n, .inl (S.1 k))) {i : Int32} (hdg : decode cc pc = .ok (.baload, 1))
    {β : Type} {kf : Int32 → Option β} {r : β} (hf : x_ld (S.1 k) n i kf = some r) (kk : ∀ v : Int32, kf v = some r → W p l e R s m args below meth c H locs cells slots Q (F0 m (pc + 1) ls (.int v :: rest))) : W p l e R s m args below meth c H locs cells slots Q (F0 m pc ls (.int i :: .ref (q k) :: rest)) := by
  obtain ⟨hx, hb, -⟩ := B
  obtain ⟨hK, hP, -⟩ := hw
  obtain ⟨hin, hf⟩ := x_ld_some hf
  exact va_bald hx hb hK hP k 2 (by rw [wsOf_at hk, he]) rfl hin hdg (kk _ hf)
theorem x_zald (B : XB p s m args meth c A cc nL ret own) (hw : Xw D N cell q T Ex A s S H locs) (k : Nat) (hk : k < N) {n : Nat} (he : cell k (S.1 k) (S.2 k) = .inl (T 3, n, .inl (S.1 k))) {i : Int32} (hdg : decode cc pc = .ok (.baload, 1))
    {β : Type} {kf : Int32 → Option β} {r : β} (hf : x_ld (S.1 k) n i kf = some r) (kk : ∀ v : Int32, kf v = some r → W p l e R s m args below meth c H locs cells slots Q (F0 m (pc + 1) ls (.int v :: rest))) : W p l e R s m args below meth c H locs cells slots Q (F0 m pc ls (.int i :: .ref (q k) :: rest)) := by
  obtain ⟨hx, hb, -⟩ := B
  obtain ⟨hK, hP, -⟩ := hw
  obtain ⟨hin, hf⟩ := x_ld_some hf
  exact va_zald hx hb hK hP k 3 (by rw [wsOf_at hk, he]) rfl hin hdg (kk _ hf)
theorem x_lald (B : XB p s m args meth c A cc nL ret own) (hw : Xw D N cell q T Ex A s S H locs) (k : Nat) (hk : k < N) {n : Nat} (he : cell k (S.1 k) (S.2 k) = .inl (T 1, n, .inr (.inl (S.2 k)))) {i : Int32} (hdg : decode cc pc = .ok (.laload, 1))
    {β : Type} {kf : Int64 → Option β} {r : β} (hf : x_ld (S.2 k) n i kf = some r) (kk : ∀ v : Int64, kf v = some r → W p l e R s m args below meth c H locs cells slots Q (F0 m (pc + 1) ls (.long v :: rest))) : W p l e R s m args below meth c H locs cells slots Q (F0 m pc ls (.int i :: .ref (q k) :: rest)) := by
  obtain ⟨hx, hb, -⟩ := B
  obtain ⟨hK, hP, -⟩ := hw
  obtain ⟨hin, hf⟩ := x_ld_some hf
  exact va_lald hx hb hK hP k 1 (by rw [wsOf_at hk, he]) rfl hin hdg (kk _ hf)
theorem x_iast (B : XB p s m args meth c A cc nL ret own) (hw : Xw D N cell q T Ex A s S H locs) (k : Nat) (hk : k < N) {n : Nat} (he : ∀ f g, cell k f g = .inl (T 0, n, .inl f)) {i x : Int32} (hdg : decode cc pc = .ok (.iastore, 1))
    {β : Type} {kf : St → Option β} {r : β} (hf : x_gd n i (x_lt (upI S k i.toNatClampNeg x) kf) = some r) (kk : ∀ (S2 : St) (H1 : Heap) (locs1 : List Loc), Xw D N cell q T Ex A s S2 H1 locs1 → kf S2 = some r → W p l e R s m args below meth c H1 locs1 cells slots Q (F0 m (pc + 1) ls rest)) : W p l e R s m args below meth c H locs cells slots Q (F0 m pc ls (.int x :: .int i :: .ref (q k) :: rest)) := by
  obtain ⟨hx, hb, -⟩ := B
  obtain ⟨hK, hP, hD, hS, hE⟩ := hw
  obtain ⟨hin, hf⟩ := x_gd_some hf
  refine va_iast hx hb hK hP hD hS k 0 (by rw [wsOf_at hk, he]) rfl hin hdg fun H1 locs1 hP1 hD1 hS1 => ?_
  rw [wsOf_set (S := S) (S' := upI S k i.toNatClampNeg x) (by rw [he, upI_1]) upI_o (fun _ _ => rfl)] at hP1 hD1
  exact kk _ H1 locs1 ⟨hK, hP1, hD1, hS1, hE⟩ hf
theorem x_bast (B : XB p s m args meth c A cc nL ret own) (hw : Xw D N cell q T Ex A s S H locs) (k : Nat) (hk : k < N) {n : Nat} (he : ∀ f g, cell k f g = .inl (T 2, n, .inl f)) {i x : Int32} (hdg : decode cc pc = .ok (.bastore, 1))
    {β : Type} {kf : St → Option β} {r : β} (hf : x_gd n i (x_lt (upI S k i.toNatClampNeg (vp_nar .byte x)) kf) = some r) (kk : ∀ (S2 : St) (H1 : Heap) (locs1 : List Loc), Xw D N cell q T Ex A s S2 H1 locs1 → kf S2 = some r → W p l e R s m args below meth c H1 locs1 cells slots Q (F0 m (pc + 1) ls rest)) : W p l e R s m args below meth c H locs cells slots Q (F0 m pc ls (.int x :: .int i :: .ref (q k) :: rest)) := by
  obtain ⟨hx, hb, -⟩ := B
  obtain ⟨hK, hP, hD, hS, hE⟩ := hw
  obtain ⟨hin, hf⟩ := x_gd_some hf
  refine va_bast hx hb hK hP hD hS k 2 (by rw [wsOf_at hk, he]) rfl hin hdg fun H1 locs1 hP1 hD1 hS1 => ?_
  rw [wsOf_set (S := S) (S' := upI S k i.toNatClampNeg (vp_nar .byte x)) (by rw [he, upI_1]) upI_o (fun _ _ => rfl)] at hP1 hD1
  exact kk _ H1 locs1 ⟨hK, hP1, hD1, hS1, hE⟩ hf
theorem x_zast (B : XB p s m args meth c A cc nL ret own) (hw : Xw D N cell q T Ex A s S H locs) (k : Nat) (hk : k < N) {n : Nat} (he : ∀ f g, cell k f g = .inl (T 3, n, .inl f)) {i x : Int32} (hdg : decode cc pc = .ok (.bastore, 1))
    {β : Type} {kf : St → Option β} {r : β} (hf : x_gd n i (x_lt (upI S k i.toNatClampNeg (vp_nar .boolean x)) kf) = some r) (kk : ∀ (S2 : St) (H1 : Heap) (locs1 : List Loc), Xw D N cell q T Ex A s S2 H1 locs1 → kf S2 = some r → W p l e R s m args below meth c H1 locs1 cells slots Q (F0 m (pc + 1) ls rest)) : W p l e R s m args below meth c H locs cells slots Q (F0 m pc ls (.int x :: .int i :: .ref (q k) :: rest)) := by
  obtain ⟨hx, hb, -⟩ := B
  obtain ⟨hK, hP, hD, hS, hE⟩ := hw
  obtain ⟨hin, hf⟩ := x_gd_some hf
  refine va_zast hx hb hK hP hD hS k 3 (by rw [wsOf_at hk, he]) rfl hin hdg fun H1 locs1 hP1 hD1 hS1 => ?_
  rw [wsOf_set (S := S) (S' := upI S k i.toNatClampNeg (vp_nar .boolean x)) (by rw [he, upI_1]) upI_o (fun _ _ => rfl)] at hP1 hD1
  exact kk _ H1 locs1 ⟨hK, hP1, hD1, hS1, hE⟩ hf
theorem x_last (B : XB p s m args meth c A cc nL ret own) (hw : Xw D N cell q T Ex A s S H locs) (k : Nat) (hk : k < N) {n : Nat} (he : ∀ f g, cell k f g = .inl (T 1, n, .inr (.inl g))) {i : Int32} {x : Int64} (hdg : decode cc pc = .ok (.lastore, 1))
    {β : Type} {kf : St → Option β} {r : β} (hf : x_gd n i (x_lt (upL S k i.toNatClampNeg x) kf) = some r) (kk : ∀ (S2 : St) (H1 : Heap) (locs1 : List Loc), Xw D N cell q T Ex A s S2 H1 locs1 → kf S2 = some r → W p l e R s m args below meth c H1 locs1 cells slots Q (F0 m (pc + 1) ls rest)) : W p l e R s m args below meth c H locs cells slots Q (F0 m pc ls (.long x :: .int i :: .ref (q k) :: rest)) := by
  obtain ⟨hx, hb, -⟩ := B
  obtain ⟨hK, hP, hD, hS, hE⟩ := hw
  obtain ⟨hin, hf⟩ := x_gd_some hf
  refine va_last hx hb hK hP hD hS k 1 (by rw [wsOf_at hk, he]) rfl hin hdg fun H1 locs1 hP1 hD1 hS1 => ?_
  rw [wsOf_set (S := S) (S' := upL S k i.toNatClampNeg x) (by rw [he, upL_2]) (fun _ _ => rfl) upL_o] at hP1 hD1
  exact kk _ H1 locs1 ⟨hK, hP1, hD1, hS1, hE⟩ hf
theorem x_alen (B : XB p s m args meth c A cc nL ret own) (hw : Xw D N cell q T Ex A s S H locs) (k : Nat) (hk : k < N) (t0 : Nat) {ty : FieldType} (ht : (tyz T)[t0]? = some (T t0, ty)) {x : vp_A} (he : cell k (S.1 k) (S.2 k) = .inl (T t0, x)) {v : Int32} (hv : Int32.ofNat x.1 = v) (hdg : decode cc pc = .ok (.arraylength, 1))
    (kk : W p l e R s m args below meth c H locs cells slots Q (F0 m (pc + 1) ls (.int v :: rest))) : W p l e R s m args below meth c H locs cells slots Q (F0 m pc ls (.ref (q k) :: rest)) := by
  obtain ⟨hx, hb, -⟩ := B
  obtain ⟨hK, hP, -⟩ := hw
  exact va_alen hx hb hK hP k t0 (by rw [wsOf_at hk, he]) ht hv hdg kk
theorem x_let {α β : Type} {a : α} {kf : α → Option β} {r : β} {F : α → Prop} (hf : x_lt a kf = some r) (kk : ∀ v : α, kf v = some r → F v) : F a := kk a hf
theorem x_leti {x : Int32} {β : Type} {kf : Int32 → Option β} {r : β} (hf : x_lt x kf = some r) (kk : ∀ v : Int32, kf v = some r → W p l e R s m args below meth c H locs cells slots Q (F0 m pc ls (.int v :: rest))) : W p l e R s m args below meth c H locs cells slots Q (F0 m pc ls (.int x :: rest)) := kk x hf
theorem x_letl {x : Int64} {β : Type} {kf : Int64 → Option β} {r : β} (hf : x_lt x kf = some r) (kk : ∀ v : Int64, kf v = some r → W p l e R s m args below meth c H locs cells slots Q (F0 m pc ls (.long v :: rest))) : W p l e R s m args below meth c H locs cells slots Q (F0 m pc ls (.long x :: rest)) := kk x hf
/-! calls -/
theorem x_blind (hE : XE Ex) {av : List Value} {sz : Nat} : FrameBlind (va_Pc av (XPre D N cell q T Ex S sz)) := fun a U g mk h => by
  obtain ⟨rfl, h1, h2, h3, h4, h5⟩ := h
  exact ⟨rfl, h1, h2, va_K.moved (u := U) (U := U.calling g mk av.toArray) (Vm.Alike.refl U.vm) h3, h4, hE.1 _ U _ _ (State.WarmedH.refl U) h5⟩
theorem x_pre (hE : XE Ex) (hw : Xw D N cell q T Ex A s S H locs) (hA : ∀ q : Nat, s.heap.size ≤ q → A q) {av : List Value} : ∀ U : State, U.heap = H → s.WarmedH U.vm → va_Pc av (XPre D N cell q T Ex S H.size) av.toArray U := by
  obtain ⟨hK, hP, hD, hS, hX⟩ := hw
  intro U hU hW
  subst hU
  refine ⟨rfl, rfl, hP, va_K.moved hW.alike hK, wsOf_D hD (fun _ _ => trivial), ?_⟩
  refine hE.2.2 A _ _ _ (fun a h => ?_) (hE.2.1 A _ s.heap U.heap hS.2.1 (hE.1 A s U _ hW hX))
  rcases h with ⟨k, x, hk⟩ | h
  · exact hD.2 k _ hk
  · exact hA a (Nat.le_trans hS.1 h)
theorem x_back {rv : Option Value} {st0 : List Value} {a : Array Value} (hr : va_Run p l e R s m args below meth c H locs 0 0 0 0 (F0 m pc ls st0) rest (XQ D N cell q T S' rv (va_A (wsOf N cell q S) H.size) a) (va_A (wsOf N cell q S) H.size)) (hw : Xw D N cell q T Ex A s S H locs) (hA : ∀ q : Nat, s.heap.size ≤ q → A q)
    (kk : ∀ (H1 : Heap) (locs1 : List Loc), Xw D N cell q T Ex A s S' H1 locs1 → W p l e R s m args below meth c H1 locs1 0 0 Q (F0 m (pc + 3) ls (rv.toList ++ rest))) : W p l e R s m args below meth c H locs 0 0 Q (F0 m pc ls st0) := by
  obtain ⟨hK, hP, hD, hS, hX⟩ := hw
  have hAA : ∀ x, va_A (wsOf N cell q S) H.size x → A x := fun x h => by
    rcases h with ⟨k, x, hk⟩ | h
    · exact hD.2 k _ hk
    · exact hA x (Nat.le_trans hS.1 h)
  intro T0 hT X
  obtain ⟨v, st₀, t, T', L, h0, X', hL, e1, e2, ⟨⟨hv, hb1, hb2⟩, hz, hk⟩, st⟩ := hr T0 hT X
  cases hv
  rw [h0] at hz hk
  obtain ⟨t2, a1, b1⟩ := kk T'.heap (locs ++ L) ⟨hK, by rw [e1]; exact hb1, wsOf_D hD (fun k hk => wsOf_A hD hk), ⟨Nat.le_trans hS.1 (by rw [e1]; exact hz), fun x h1 h2 => by
      rw [e1, hk x (Nat.lt_of_lt_of_le h1 hS.1) (fun z => h2 (hAA x z))]
      exact hS.2.1 x h1 h2, fun x hx => by
      rcases List.mem_append.mp hx with h | h
      · exact hS.2.2 x h
      · exact hAA _ (hL x h)⟩, hX⟩ T' rfl X'
  exact ⟨t2, st t2 a1, b1⟩
theorem x_callV (B : XB p s m args meth c A cc nL ret own) (hE : XE Ex) (hw : Xw D N cell q T Ex A s S H locs) {y : MethodName} {bytes : ByteArray} {n maxL index : Nat} {rt : Option FieldType} {rm : Room} {rv : Option Value} {As st1 : List Value} (k : Nat) (hk : k < N) {ci : Nat} {fs : List Value} {r0 : vw_C} (he : cell k (S.1 k) (S.2 k) = .inr (ci, fs)) (hc : vwCl[ci]? = some r0) (hM : XMet l D N cell q T Ex y bytes maxL rt rm (.ref (q k) :: As) S rv S') (h1 : Cond.methodLink own index y ∈ UU) (h2 : Cond.instanceMethod y ∈ UU) (h3 : Cond.selects r0.1 y y ∈ UU) (h4 : Cond.initialized r0.1 ∈ UU) (h5 : Cond.code y bytes maxL rt ∈ UU)
    (hd : y.cls = r0.1 ∧ y.cls ≠ "java/lang/invoke/MethodHandle" ∧ y.cls ≠ "java/lang/invoke/VarHandle" ∧ (parseMethodDescriptor y.desc).map (fun d => d.parameters.length) = some n) (hn : As.length = n) (hR : rm.frames + 1 ≤ R.frames ∧ 8 + (maxL + 11) + rm.locals ≤ R.locals) (hrm : rm.cells = 0 ∧ rm.slots = 0) (hls : ls.size = nL) (hW : (rest.map fun v => v.category).sum ≤ 8) (hdg : decode cc pc = .ok (.invokevirtual index, 3))
    (kk : ∀ (H1 : Heap) (locs1 : List Loc), Xw D N cell q T Ex A s S' H1 locs1 → W p l e R s m args below meth c H1 locs1 0 0 Q (F0 m (pc + 3) ls st1)) {st0 : List Value} (hst : st0 = As.reverse ++ .ref (q k) :: rest) (hst1 : rv.toList ++ rest = st1) : W p l e R s m args below meth c H locs 0 0 Q (F0 m pc ls st0) := by
  subst hst1
  obtain ⟨hx, hb, -, hml, hown, hts, -, hA⟩ := B
  have hG : GoodIn UU (wsV own index r0.1 y (wsY y bytes maxL rt)) := fun w h => by
    unfold wsV at h
    rcases List.mem_append.mp h with h | h
    · have : w ∈ UU := by
        simp only [List.mem_cons, List.not_mem_nil, or_false] at h
        rcases h with rfl | rfl | rfl | rfl <;> assumption
      exact ⟨this, good_of_word (UU_good _ this)⟩
    · exact goodY h5 w h
  exact x_back (va_runV ⟨hx, hb, hml, hown, hts⟩ (hM H.size) (cwV n hts hG rfl hrm.1 hrm.2 hd hR) ⟨x_blind hE, va_recv hw.1 hw.2.1 hc (q0 := k) (by rw [wsOf_at hk, he]), x_pre hE hw hA⟩ rfl hn hls hst (lv_room hW) hdg ⟨Nat.zero_le _, Nat.zero_le _⟩) hw hA kk
theorem x_callS (B : XB p s m args meth c A cc nL ret own) (hE : XE Ex) (hw : Xw D N cell q T Ex A s S H locs) {y : MethodName} {bytes : ByteArray} {n maxL index : Nat} {rt : Option FieldType} {rm : Room} {rv : Option Value} {As st1 : List Value} (hM : XMet l D N cell q T Ex y bytes maxL rt rm As S rv S') (h1 : Cond.methodLink own index y ∈ UU) (h2 : Cond.static y ∈ UU) (h4 : Cond.initialized y.cls ∈ UU) (h5 : Cond.code y bytes maxL rt ∈ UU)
    (hd : y.cls ≠ "java/lang/invoke/MethodHandle" ∧ y.cls ≠ "java/lang/invoke/VarHandle" ∧ (parseMethodDescriptor y.desc).map (fun d => d.parameters.length) = some n) (hn : As.length = n) (hR : rm.frames + 1 ≤ R.frames ∧ 8 + (maxL + 11) + rm.locals ≤ R.locals) (hrm : rm.cells = 0 ∧ rm.slots = 0) (hls : ls.size = nL) (hW : (rest.map fun v => v.category).sum ≤ 8) (hdg : decode cc pc = .ok (.invokestatic index, 3))
    (kk : ∀ (H1 : Heap) (locs1 : List Loc), Xw D N cell q T Ex A s S' H1 locs1 → W p l e R s m args below meth c H1 locs1 0 0 Q (F0 m (pc + 3) ls st1)) {st0 : List Value} (hst : st0 = As.reverse ++ rest) (hst1 : rv.toList ++ rest = st1) : W p l e R s m args below meth c H locs 0 0 Q (F0 m pc ls st0) := by
  subst hst1
  obtain ⟨hx, hb, -, hml, hown, hts, -, hA⟩ := B
  have hG : GoodIn UU (va_wsS own index y (wsY y bytes maxL rt)) := fun w h => by
    unfold va_wsS at h
    rcases List.mem_append.mp h with h | h
    · have : w ∈ UU := by
        simp only [List.mem_cons, List.not_mem_nil, or_false] at h
        rcases h with rfl | rfl | rfl <;> assumption
      exact ⟨this, good_of_word (UU_good _ this)⟩
    · exact goodY h5 w h
  exact x_back (va_runS ⟨hx, hb, hml, hown, hts⟩ (hM H.size) (va_cwS n hts hG rfl hrm.1 hrm.2 hd hR) ⟨x_blind hE, x_pre hE hw hA⟩ rfl hn hls hst (lv_room hW) hdg ⟨Nat.zero_le _, Nat.zero_le _⟩) hw hA kk
theorem x_callSN (B : XB p s m args meth c A cc nL ret own) (hE : XE Ex) (hw : Xw D N cell q T Ex A s S H locs) {y : MethodName} {bytes : ByteArray} {n maxL index : Nat} {host : String} {rt : Option FieldType} {rm : Room} {rv : Option Value} {As st1 : List Value} (hM : XMet l D N cell q T Ex y bytes maxL rt rm As S rv S') (h1 : va_Nw (.methodLinkNest own index y host) s) (h2 : Cond.static y ∈ UU) (h4 : Cond.initialized y.cls ∈ UU) (h5 : Cond.code y bytes maxL rt ∈ UU)
    (hd : y.cls ≠ "java/lang/invoke/MethodHandle" ∧ y.cls ≠ "java/lang/invoke/VarHandle" ∧ (parseMethodDescriptor y.desc).map (fun d => d.parameters.length) = some n) (hn : As.length = n) (hR : rm.frames + 1 ≤ R.frames ∧ 8 + (maxL + 11) + rm.locals ≤ R.locals) (hrm : rm.cells = 0 ∧ rm.slots = 0) (hls : ls.size = nL) (hW : (rest.map fun v => v.category).sum ≤ 8) (hdg : decode cc pc = .ok (.invokestatic index, 3))
    (kk : ∀ (H1 : Heap) (locs1 : List Loc), Xw D N cell q T Ex A s S' H1 locs1 → W p l e R s m args below meth c H1 locs1 0 0 Q (F0 m (pc + 3) ls st1)) {st0 : List Value} (hst : st0 = As.reverse ++ rest) (hst1 : rv.toList ++ rest = st1) : W p l e R s m args below meth c H locs 0 0 Q (F0 m pc ls st0) := by
  subst hst1
  obtain ⟨hx, hb, -, hml, hown, hts, -, hA⟩ := B
  exact x_back (va_runSN ⟨hx, hb, hml, hown, hts⟩ (hM H.size) ⟨va_cnB n hts (goodY h5) rfl hrm.1 hrm.2 h1 (hts _ h4) hd hR, hts _ h2, trivial⟩ ⟨x_blind hE, x_pre hE hw hA⟩ rfl hn hls hst (lv_room hW) hdg ⟨Nat.zero_le _, Nat.zero_le _⟩) hw hA kk
theorem x_callStr {N0 : Nat} {len : List Nat} {byt : List (List Int32)} {aK aV : Nat → Nat} (B : XB p s m args meth c A cc nL ret own) (hE : XE Ex) (hV : vk_S N0 len byt aK aV A s s.heap) {i : Nat} (hi : i < N0) (hw : Xw D N cell q T Ex A s S H locs) {y : MethodName} {bytes : ByteArray} {n maxL index : Nat} {rt : Option FieldType} {rm : Room} {rv : Option Value} {As st1 : List Value} (hM : XMet l D N cell q T Ex y bytes maxL rt rm (.ref (aK i) :: As) S rv S') (h1 : Cond.methodLink own index y ∈ UU) (h2 : Cond.instanceMethod y ∈ UU) (h3 : Cond.selects "java/lang/String" y y ∈ UU) (h4 : Cond.initialized "java/lang/String" ∈ UU) (h5 : Cond.code y bytes maxL rt ∈ UU)
    (hd : y.cls = "java/lang/String" ∧ (parseMethodDescriptor y.desc).map (fun d => d.parameters.length) = some n) (hn : As.length = n) (hR : rm.frames + 1 ≤ R.frames ∧ 8 + (maxL + 11) + rm.locals ≤ R.locals) (hrm : rm.cells = 0 ∧ rm.slots = 0) (hls : ls.size = nL) (hW : (rest.map fun v => v.category).sum ≤ 8) (hdg : decode cc pc = .ok (.invokevirtual index, 3))
    (kk : ∀ (H1 : Heap) (locs1 : List Loc), Xw D N cell q T Ex A s S' H1 locs1 → W p l e R s m args below meth c H1 locs1 0 0 Q (F0 m (pc + 3) ls st1)) {st0 : List Value} (hst : st0 = As.reverse ++ .ref (aK i) :: rest) (hst1 : rv.toList ++ rest = st1) : W p l e R s m args below meth c H locs 0 0 Q (F0 m pc ls st0) := by
  subst hst1
  obtain ⟨hx, hb, -, hml, hown, hts, -, hA⟩ := B
  have hG : GoodIn UU (wsV own index "java/lang/String" y (wsY y bytes maxL rt)) := fun w h => by
    unfold wsV at h
    rcases List.mem_append.mp h with h | h
    · have : w ∈ UU := by
        simp only [List.mem_cons, List.not_mem_nil, or_false] at h
        rcases h with rfl | rfl | rfl | rfl <;> assumption
      exact ⟨this, good_of_word (UU_good _ this)⟩
    · exact goodY h5 w h
  exact x_back (va_runV ⟨hx, hb, hml, hown, hts⟩ (hM H.size) (cwV n hts hG rfl hrm.1 hrm.2 ⟨hd.1, by rw [hd.1]; decide, by rw [hd.1]; decide, hd.2⟩ hR) ⟨x_blind hE, vk_recv hV hi hw.2.2.2.1, x_pre hE hw hA⟩ rfl hn hls hst (lv_room hW) hdg ⟨Nat.zero_le _, Nat.zero_le _⟩) hw hA kk
/-! a method's entry and its ends -/
theorem x_enter {y : MethodName} {rm : Room} {av : List Value} {rv : Option Value} (hy : plainName y.cls = true) (hown : y.cls = own) (hlen : (lg_sl av).length ≤ nL)
    (body : ∀ (p : Program) (e : Env) (s : State) (m : MethodId) (below : List Frame) (meth : Method) (c : Code) (A : Nat → Prop), XB p s m av.toArray meth c A cc nL ret own → ∀ (ls : Array Slot), Xw D N cell q T Ex A s S s.heap [] → lv_has ls nL (lv_args 0 av) → XG p l e rm s m av.toArray below meth c D N cell q T A S' rv s.heap [] 0 ls []) :
    XMet l D N cell q T Ex y cc nL ret rm av S rv S' := by
  subst hown
  intro sz
  refine Met.ofW (cc := cc) (maxL := nL) (ret := ret) hy rfl ?_
  intro p e s m args below meth c s₁ B hml hv
  obtain ⟨rfl, hsz, hP, hK, hD0, hX⟩ := hv
  have hts := atoms_spec (ws := wsY y cc nL ret) B.pre
  subst hsz
  have hD : va_D (va_A (wsOf N cell q S) s.heap.size) (wsOf N cell q S) := hD0.self
  have hA : ∀ x : Nat, s.heap.size ≤ x → va_A (wsOf N cell q S) s.heap.size x := fun x h => Or.inr h
  have hl := lv_entry av (n := nL) hlen
  rw [lg_entry_eq]
  exact body p e s m below meth c _ ⟨B.exec, B.bytes, B.returns, hml, findClass_of_methodNamed B.named, fun w h => hts w (List.mem_cons_of_mem _ h), B.notSynchronized, hA⟩ _ ⟨hK, hP, hD, va_S.rf, hX⟩ hl
theorem x_iret (B : XB p s m args meth c A cc nL (some .int) own) (hw : Xw D N cell q T Ex A s S H locs) {v r : Int32} (hf : some (v, S) = some (r, S')) (hdg : decode cc pc = .ok (.ireturn, 1)) : XG p l e R s m args below meth c D N cell q T A S' (some (.int r)) H locs pc ls [.int v] := by
  cases hf
  obtain ⟨hx, hb, hr, -, -, -, hlocks, -⟩ := B
  obtain ⟨hK, hP, -, hS, -⟩ := hw
  exact W.iret (v := v) hx hb hr (fun t ht hW => ⟨⟨rfl, by rw [ht]; exact hP, va_K.moved hW.alike hK⟩, hS.F ht⟩) hS.2.2 hdg hlocks
theorem x_lret (B : XB p s m args meth c A cc nL (some .long) own) (hw : Xw D N cell q T Ex A s S H locs) {v r : Int64} (hf : some (v, S) = some (r, S')) (hdg : decode cc pc = .ok (.lreturn, 1)) : XG p l e R s m args below meth c D N cell q T A S' (some (.long r)) H locs pc ls [.long v] := by
  cases hf
  obtain ⟨hx, hb, hr, -, -, -, hlocks, -⟩ := B
  obtain ⟨hK, hP, -, hS, -⟩ := hw
  exact W.lret (v := v) hx hb hr (fun t ht hW => ⟨⟨rfl, by rw [ht]; exact hP, va_K.moved hW.alike hK⟩, hS.F ht⟩) hS.2.2 hdg hlocks
theorem x_vret (B : XB p s m args meth c A cc nL none own) (hw : Xw D N cell q T Ex A s S H locs) (hf : some S = some S') (hdg : decode cc pc = .ok (.return_, 1)) : XG p l e R s m args below meth c D N cell q T A S' none H locs pc ls [] := by
  cases hf
  obtain ⟨hx, hb, hr, -, -, -, hlocks, -⟩ := B
  obtain ⟨hK, hP, -, hS, -⟩ := hw
  exact W.vret hx hb hr (fun t ht hW => ⟨⟨rfl, by rw [ht]; exact hP, va_K.moved hW.alike hK⟩, hS.F ht⟩) hS.2.2 hdg hlocks
theorem x_zret (B : XB p s m args meth c A cc nL (some .boolean) own) (hw : Xw D N cell q T Ex A s S H locs) {v r : Int32} (hf : x_nr v (some (v, S)) = some (r, S')) (hdg : decode cc pc = .ok (.ireturn, 1)) : XG p l e R s m args below meth c D N cell q T A S' (some (.int r)) H locs pc ls [.int v] := by
  obtain ⟨hn, hf⟩ := x_nr_some hf
  cases hf
  obtain ⟨hx, hb, hr, -, -, -, hlocks, -⟩ := B
  obtain ⟨hK, hP, -, hS, -⟩ := hw
  exact W.zret (v := v) hx hb hr hn (fun t ht hW => ⟨⟨rfl, by rw [ht]; exact hP, va_K.moved hW.alike hK⟩, hS.F ht⟩) hS.2.2 hdg hlocks
theorem x_aret {rt : FieldType} (hrt : ∃ n, rt = .object n) (B : XB p s m args meth c A cc nL (some rt) own) (hw : Xw D N cell q T Ex A s S H locs) {v r : Nat} (hf : some (v, S) = some (r, S')) (hdg : decode cc pc = .ok (.areturn, 1)) : XG p l e R s m args below meth c D N cell q T A S' (some (.ref (q r))) H locs pc ls [.ref (q v)] := by
  cases hf
  obtain ⟨hx, hb, hr, -, -, -, hlocks, -⟩ := B
  obtain ⟨hK, hP, -, hS, -⟩ := hw
  exact W.aret (v := .ref (q v)) hx hb hr (Or.inl hrt) (Or.inr ⟨_, rfl⟩) (fun t ht hW => ⟨⟨rfl, by rw [ht]; exact hP, va_K.moved hW.alike hK⟩, hS.F ht⟩) hS.2.2 hdg hlocks
end XROWS
end
section
/-! names of the callees, and the cells of the two worlds -/
def FU : Nat := 1024
def cellC (T : Nat → ClassId) (q : Nat → Nat) : Cf := fun k f g => match k with
  | 0 => .inr (6, [.ref (q 1), .ref (q 3), .ref (q 14), .ref (q 19), .ref (q 23), .ref (q 27), .ref (q 31), .ref (q 36), .ref (q 39), .long (g 9)])
  | 1 => .inr (5, [.ref (q 2), .int (f 1), .int (f 2), .int (f 3), .int (f 4), .int (f 5)])
  | 2 => .inl (T 0, 300, .inl f)
  | 3 => .inr (4, [.ref (q 4), .ref (q 9), .ref (q 13), .int (f 3)])
  | 4 => .inr (1, [.ref (q 5), .ref (q 6), .ref (q 7), .ref (q 8), .int (f 4)])
  | 5 => .inl (T 0, 40, .inl f)
  | 6 => .inl (T 0, 8, .inl f)
  | 7 => .inl (T 0, 8, .inl f)
  | 8 => .inl (T 0, 8, .inl f)
  | 9 => .inr (3, [.ref (q 10), .ref (q 11), .ref (q 12), .int (f 3), .int (f 4), .int (f 5), .int (f 6), .int (f 7)])
  | 10 => .inl (T 0, 30, .inl f)
  | 11 => .inl (T 0, 20, .inl f)
  | 12 => .inl (T 0, 20, .inl f)
  | 13 => .inl (T 0, 7, .inl f)
  | 14 => .inr (1, [.ref (q 15), .ref (q 16), .ref (q 17), .ref (q 18), .int (f 4)])
  | 15 => .inl (T 0, 40, .inl f)
  | 16 => .inl (T 0, 8, .inl f)
  | 17 => .inl (T 0, 8, .inl f)
  | 18 => .inl (T 0, 8, .inl f)
  | 19 => .inr (3, [.ref (q 20), .ref (q 21), .ref (q 22), .int (f 3), .int (f 4), .int (f 5), .int (f 6), .int (f 7)])
  | 20 => .inl (T 0, 30, .inl f)
  | 21 => .inl (T 0, 20, .inl f)
  | 22 => .inl (T 0, 20, .inl f)
  | 23 => .inr (3, [.ref (q 24), .ref (q 25), .ref (q 26), .int (f 3), .int (f 4), .int (f 5), .int (f 6), .int (f 7)])
  | 24 => .inl (T 0, 30, .inl f)
  | 25 => .inl (T 0, 20, .inl f)
  | 26 => .inl (T 0, 20, .inl f)
  | 27 => .inr (3, [.ref (q 28), .ref (q 29), .ref (q 30), .int (f 3), .int (f 4), .int (f 5), .int (f 6), .int (f 7)])
  | 28 => .inl (T 0, 30, .inl f)
  | 29 => .inl (T 0, 20, .inl f)
  | 30 => .inl (T 0, 20, .inl f)
  | 31 => .inr (2, [.ref (q 32), .ref (q 33), .ref (q 34), .ref (q 35), .int (f 4), .int (f 5)])
  | 32 => .inl (T 0, 3, .inl f)
  | 33 => .inl (T 0, 3, .inl f)
  | 34 => .inl (T 0, 3, .inl f)
  | 35 => .inl (T 0, 5, .inl f)
  | 36 => .inr (0, [.ref (q 37), .ref (q 38)])
  | 37 => .inl (T 1, 8, .inr (.inl g))
  | 38 => .inl (T 1, 8, .inr (.inl g))
  | _ => .inl (T 0, 5, .inl f)
def cellM (T : Nat → ClassId) (q : Nat → Nat) : Cf := fun k f g => match k with
  | 0 => .inr (7, [.long (g 0), .ref (q 1), .int (f 2), .ref (q 2), .ref (q 3), .ref (q 4), .ref (q 5), .ref (q 6), .ref (q 7), .ref (q 8), .int (f 10), .int (f 11), .int (f 12), .int (f 13), .int (f 14), .int (f 15), .ref (q 9), .ref (q 10), .ref (q 11), .ref (q 12), .ref (q 13), .ref (q 14), .ref (q 15), .ref (q 16)])
  | 1 => .inl (T 2, 300, .inl f)
  | 2 => .inl (T 0, 2, .inl f)
  | 3 => .inl (T 0, 60, .inl f)
  | 4 => .inl (T 0, 2, .inl f)
  | 5 => .inl (T 0, 80, .inl f)
  | 6 => .inl (T 0, 16, .inl f)
  | 7 => .inl (T 0, 16, .inl f)
  | 8 => .inl (T 0, 2, .inl f)
  | 9 => .inl (T 0, 219, .inl f)
  | 10 => .inl (T 3, 2, .inl f)
  | 11 => .inl (T 0, 3, .inl f)
  | 12 => .inl (T 0, 3, .inl f)
  | 13 => .inl (T 0, 3, .inl f)
  | 14 => .inl (T 1, 8, .inr (.inl g))
  | 15 => .inl (T 1, 8, .inr (.inl g))
  | _ => .inl (T 0, 5, .inl f)
/-! the texts house, dish, fog; what the class only reads -/
def lenS : List Nat := [5, 4, 3]
def bytS : List (List Int32) := [[104, 111, 117, 115, 101], [100, 105, 115, 104], [102, 111, 103]]
def sc_ch (i k : Nat) : Int32 := (bytS.getD i []).getD k 0 &&& 255
def ExC (aK aV : Nat → Nat) (A : Nat → Prop) (U : State) (H : Heap) : Prop :=
  vk_S 3 lenS bytS aK aV A U H ∧ va_Z "java/lang/String" "COMPACT_STRINGS" "Z" (.int 1) A U H ∧ va_Zq "jdk/internal/util/Preconditions" "SIOOBE_FORMATTER" "Ljava/util/function/BiFunction;" A U H ∧ vk_R RX5 48 "house" (aK 0) U ∧ vk_R RX5 54 "dish" (aK 1) U ∧ vk_R RX5 56 "fog" (aK 2) U ∧ va_Nw (.methodLinkNest RX0 24 yX6_isWord RX6) U
def ExM (_ : Nat → Prop) (_ : State) (_ : Heap) : Prop := True
theorem ExC_ok {aK aV : Nat → Nat} : XE (ExC aK aV) :=
  ⟨fun _ _ _ _ hW h => ⟨vk_S.moved hW.alike h.1, va_Z.moved hW.alike h.2.1, va_Zq.moved hW.alike h.2.2.1, vk_R.warm hW h.2.2.2.1, vk_R.warm hW h.2.2.2.2.1, vk_R.warm hW h.2.2.2.2.2.1, va_Nw.warmM hW h.2.2.2.2.2.2⟩,
   fun _ _ _ _ hq h => ⟨vk_S.kept h.1 hq, va_Z.kept h.2.1 hq, va_Zq.kept h.2.2.1 hq, h.2.2.2⟩,
   fun _ _ _ _ hAB h => ⟨vk_S.narrow h.1 hAB, va_Z.narrow h.2.1 hAB, va_Zq.narrow h.2.2.1 hAB, h.2.2.2⟩⟩
theorem ExM_ok : XE ExM := ⟨fun _ _ _ _ _ _ => trivial, fun _ _ _ _ _ _ => trivial, fun _ _ _ _ _ _ => trivial⟩
theorem x_lko {x : Int32} (h1 : ¬ x.toInt = 4786) (h2 : ¬ x.toInt = 85814) (h3 : ¬ x.toInt = 4562600) {a b c d : Int} : Op.lookupswitch.offset [(4786, a), (85814, b), (4562600, c)] d x.toInt = d := by
  have g1 : ¬ (4786 : Int) = x.toInt := fun z => h1 z.symm
  have g2 : ¬ (85814 : Int) = x.toInt := fun z => h2 z.symm
  have g3 : ¬ (4562600 : Int) = x.toInt := fun z => h3 z.symm
  simp [Op.lookupswitch.offset, g1, g2, g3]
theorem hdJ6_bitCount_0f7a4 : yJ6_bitCount_0f7a4.cls ≠ "java/lang/invoke/MethodHandle" ∧ yJ6_bitCount_0f7a4.cls ≠ "java/lang/invoke/VarHandle" ∧ (parseMethodDescriptor yJ6_bitCount_0f7a4.desc).map (fun d => d.parameters.length) = some 1 := by decide +kernel
theorem hdX0_begin : yX0_begin.cls = RX0 ∧ yX0_begin.cls ≠ "java/lang/invoke/MethodHandle" ∧ yX0_begin.cls ≠ "java/lang/invoke/VarHandle" ∧ (parseMethodDescriptor yX0_begin.desc).map (fun d => d.parameters.length) = some 1 := by decide +kernel
theorem hdX0_read : yX0_read.cls = RX0 ∧ yX0_read.cls ≠ "java/lang/invoke/MethodHandle" ∧ yX0_read.cls ≠ "java/lang/invoke/VarHandle" ∧ (parseMethodDescriptor yX0_read.desc).map (fun d => d.parameters.length) = some 2 := by decide +kernel
theorem hdX1_anySays : yX1_anySays.cls = RX1 ∧ yX1_anySays.cls ≠ "java/lang/invoke/MethodHandle" ∧ yX1_anySays.cls ≠ "java/lang/invoke/VarHandle" ∧ (parseMethodDescriptor yX1_anySays.desc).map (fun d => d.parameters.length) = some 2 := by decide +kernel
theorem hdX1_become : yX1_become.cls = RX1 ∧ yX1_become.cls ≠ "java/lang/invoke/MethodHandle" ∧ yX1_become.cls ≠ "java/lang/invoke/VarHandle" ∧ (parseMethodDescriptor yX1_become.desc).map (fun d => d.parameters.length) = some 1 := by decide +kernel
theorem hdX1_fits : yX1_fits.cls = RX1 ∧ yX1_fits.cls ≠ "java/lang/invoke/MethodHandle" ∧ yX1_fits.cls ≠ "java/lang/invoke/VarHandle" ∧ (parseMethodDescriptor yX1_fits.desc).map (fun d => d.parameters.length) = some 2 := by decide +kernel
theorem hdX1_holds : yX1_holds.cls ≠ "java/lang/invoke/MethodHandle" ∧ yX1_holds.cls ≠ "java/lang/invoke/VarHandle" ∧ (parseMethodDescriptor yX1_holds.desc).map (fun d => d.parameters.length) = some 2 := by decide +kernel
theorem hdX1_leanest : yX1_leanest.cls = RX1 ∧ yX1_leanest.cls ≠ "java/lang/invoke/MethodHandle" ∧ yX1_leanest.cls ≠ "java/lang/invoke/VarHandle" ∧ (parseMethodDescriptor yX1_leanest.desc).map (fun d => d.parameters.length) = some 1 := by decide +kernel
theorem hdX1_leastSaying : yX1_leastSaying.cls = RX1 ∧ yX1_leastSaying.cls ≠ "java/lang/invoke/MethodHandle" ∧ yX1_leastSaying.cls ≠ "java/lang/invoke/VarHandle" ∧ (parseMethodDescriptor yX1_leastSaying.desc).map (fun d => d.parameters.length) = some 1 := by decide +kernel
theorem hdX1_list : yX1_list.cls = RX1 ∧ yX1_list.cls ≠ "java/lang/invoke/MethodHandle" ∧ yX1_list.cls ≠ "java/lang/invoke/VarHandle" ∧ (parseMethodDescriptor yX1_list.desc).map (fun d => d.parameters.length) = some 1 := by decide +kernel
theorem hdX1_lists : yX1_lists.cls = RX1 ∧ yX1_lists.cls ≠ "java/lang/invoke/MethodHandle" ∧ yX1_lists.cls ≠ "java/lang/invoke/VarHandle" ∧ (parseMethodDescriptor yX1_lists.desc).map (fun d => d.parameters.length) = some 1 := by decide +kernel
theorem hdX1_meaning : yX1_meaning.cls = RX1 ∧ yX1_meaning.cls ≠ "java/lang/invoke/MethodHandle" ∧ yX1_meaning.cls ≠ "java/lang/invoke/VarHandle" ∧ (parseMethodDescriptor yX1_meaning.desc).map (fun d => d.parameters.length) = some 1 := by decide +kernel
theorem hdX1_need : yX1_need.cls = RX1 ∧ yX1_need.cls ≠ "java/lang/invoke/MethodHandle" ∧ yX1_need.cls ≠ "java/lang/invoke/VarHandle" ∧ (parseMethodDescriptor yX1_need.desc).map (fun d => d.parameters.length) = some 2 := by decide +kernel
theorem hdX1_putBack : yX1_putBack.cls = RX1 ∧ yX1_putBack.cls ≠ "java/lang/invoke/MethodHandle" ∧ yX1_putBack.cls ≠ "java/lang/invoke/VarHandle" ∧ (parseMethodDescriptor yX1_putBack.desc).map (fun d => d.parameters.length) = some 2 := by decide +kernel
theorem hdX1_smokeOfAll : yX1_smokeOfAll.cls = RX1 ∧ yX1_smokeOfAll.cls ≠ "java/lang/invoke/MethodHandle" ∧ yX1_smokeOfAll.cls ≠ "java/lang/invoke/VarHandle" ∧ (parseMethodDescriptor yX1_smokeOfAll.desc).map (fun d => d.parameters.length) = some 1 := by decide +kernel
theorem hdX1_standsOff : yX1_standsOff.cls = RX1 ∧ yX1_standsOff.cls ≠ "java/lang/invoke/MethodHandle" ∧ yX1_standsOff.cls ≠ "java/lang/invoke/VarHandle" ∧ (parseMethodDescriptor yX1_standsOff.desc).map (fun d => d.parameters.length) = some 3 := by decide +kernel
theorem hdX1_take : yX1_take.cls = RX1 ∧ yX1_take.cls ≠ "java/lang/invoke/MethodHandle" ∧ yX1_take.cls ≠ "java/lang/invoke/VarHandle" ∧ (parseMethodDescriptor yX1_take.desc).map (fun d => d.parameters.length) = some 2 := by decide +kernel
theorem hdX1_tellsApart : yX1_tellsApart.cls = RX1 ∧ yX1_tellsApart.cls ≠ "java/lang/invoke/MethodHandle" ∧ yX1_tellsApart.cls ≠ "java/lang/invoke/VarHandle" ∧ (parseMethodDescriptor yX1_tellsApart.desc).map (fun d => d.parameters.length) = some 3 := by decide +kernel
theorem hdX2_choose : yX2_choose.cls ≠ "java/lang/invoke/MethodHandle" ∧ yX2_choose.cls ≠ "java/lang/invoke/VarHandle" ∧ (parseMethodDescriptor yX2_choose.desc).map (fun d => d.parameters.length) = some 5 := by decide +kernel
theorem hdX2_compare : yX2_compare.cls = RX2 ∧ yX2_compare.cls ≠ "java/lang/invoke/MethodHandle" ∧ yX2_compare.cls ≠ "java/lang/invoke/VarHandle" ∧ (parseMethodDescriptor yX2_compare.desc).map (fun d => d.parameters.length) = some 1 := by decide +kernel
theorem hdX2_fewestUnits : yX2_fewestUnits.cls = RX2 ∧ yX2_fewestUnits.cls ≠ "java/lang/invoke/MethodHandle" ∧ yX2_fewestUnits.cls ≠ "java/lang/invoke/VarHandle" ∧ (parseMethodDescriptor yX2_fewestUnits.desc).map (fun d => d.parameters.length) = some 2 := by decide +kernel
theorem hdX2_hear : yX2_hear.cls = RX2 ∧ yX2_hear.cls ≠ "java/lang/invoke/MethodHandle" ∧ yX2_hear.cls ≠ "java/lang/invoke/VarHandle" ∧ (parseMethodDescriptor yX2_hear.desc).map (fun d => d.parameters.length) = some 3 := by decide +kernel
theorem hdX2_mostPlaces : yX2_mostPlaces.cls = RX2 ∧ yX2_mostPlaces.cls ≠ "java/lang/invoke/MethodHandle" ∧ yX2_mostPlaces.cls ≠ "java/lang/invoke/VarHandle" ∧ (parseMethodDescriptor yX2_mostPlaces.desc).map (fun d => d.parameters.length) = some 1 := by decide +kernel
theorem hdX3_allStock : yX3_allStock.cls = RX3 ∧ yX3_allStock.cls ≠ "java/lang/invoke/MethodHandle" ∧ yX3_allStock.cls ≠ "java/lang/invoke/VarHandle" ∧ (parseMethodDescriptor yX3_allStock.desc).map (fun d => d.parameters.length) = some 1 := by decide +kernel
theorem hdX3_become : yX3_become.cls = RX3 ∧ yX3_become.cls ≠ "java/lang/invoke/MethodHandle" ∧ yX3_become.cls ≠ "java/lang/invoke/VarHandle" ∧ (parseMethodDescriptor yX3_become.desc).map (fun d => d.parameters.length) = some 1 := by decide +kernel
theorem hdX3_change : yX3_change.cls = RX3 ∧ yX3_change.cls ≠ "java/lang/invoke/MethodHandle" ∧ yX3_change.cls ≠ "java/lang/invoke/VarHandle" ∧ (parseMethodDescriptor yX3_change.desc).map (fun d => d.parameters.length) = some 3 := by decide +kernel
theorem hdX3_draw : yX3_draw.cls = RX3 ∧ yX3_draw.cls ≠ "java/lang/invoke/MethodHandle" ∧ yX3_draw.cls ≠ "java/lang/invoke/VarHandle" ∧ (parseMethodDescriptor yX3_draw.desc).map (fun d => d.parameters.length) = some 0 := by decide +kernel
theorem hdX3_fill : yX3_fill.cls = RX3 ∧ yX3_fill.cls ≠ "java/lang/invoke/MethodHandle" ∧ yX3_fill.cls ≠ "java/lang/invoke/VarHandle" ∧ (parseMethodDescriptor yX3_fill.desc).map (fun d => d.parameters.length) = some 2 := by decide +kernel
theorem hdX3_hasHouse : yX3_hasHouse.cls = RX3 ∧ yX3_hasHouse.cls ≠ "java/lang/invoke/MethodHandle" ∧ yX3_hasHouse.cls ≠ "java/lang/invoke/VarHandle" ∧ (parseMethodDescriptor yX3_hasHouse.desc).map (fun d => d.parameters.length) = some 1 := by decide +kernel
theorem hdX3_rise : yX3_rise.cls = RX3 ∧ yX3_rise.cls ≠ "java/lang/invoke/MethodHandle" ∧ yX3_rise.cls ≠ "java/lang/invoke/VarHandle" ∧ (parseMethodDescriptor yX3_rise.desc).map (fun d => d.parameters.length) = some 2 := by decide +kernel
theorem hdX3_settle : yX3_settle.cls = RX3 ∧ yX3_settle.cls ≠ "java/lang/invoke/MethodHandle" ∧ yX3_settle.cls ≠ "java/lang/invoke/VarHandle" ∧ (parseMethodDescriptor yX3_settle.desc).map (fun d => d.parameters.length) = some 1 := by decide +kernel
theorem hdX3_stock : yX3_stock.cls = RX3 ∧ yX3_stock.cls ≠ "java/lang/invoke/MethodHandle" ∧ yX3_stock.cls ≠ "java/lang/invoke/VarHandle" ∧ (parseMethodDescriptor yX3_stock.desc).map (fun d => d.parameters.length) = some 2 := by decide +kernel
theorem hdX3_thousandths : yX3_thousandths.cls = RX3 ∧ yX3_thousandths.cls ≠ "java/lang/invoke/MethodHandle" ∧ yX3_thousandths.cls ≠ "java/lang/invoke/VarHandle" ∧ (parseMethodDescriptor yX3_thousandths.desc).map (fun d => d.parameters.length) = some 2 := by decide +kernel
theorem hdX4_draft : yX4_draft.cls = RX4 ∧ yX4_draft.cls ≠ "java/lang/invoke/MethodHandle" ∧ yX4_draft.cls ≠ "java/lang/invoke/VarHandle" ∧ (parseMethodDescriptor yX4_draft.desc).map (fun d => d.parameters.length) = some 1 := by decide +kernel
theorem hdX4_mayBegin : yX4_mayBegin.cls = RX4 ∧ yX4_mayBegin.cls ≠ "java/lang/invoke/MethodHandle" ∧ yX4_mayBegin.cls ≠ "java/lang/invoke/VarHandle" ∧ (parseMethodDescriptor yX4_mayBegin.desc).map (fun d => d.parameters.length) = some 1 := by decide +kernel
theorem hdX4_mostOf : yX4_mostOf.cls ≠ "java/lang/invoke/MethodHandle" ∧ yX4_mostOf.cls ≠ "java/lang/invoke/VarHandle" ∧ (parseMethodDescriptor yX4_mostOf.desc).map (fun d => d.parameters.length) = some 2 := by decide +kernel
theorem hdX4_numbersOf : yX4_numbersOf.cls ≠ "java/lang/invoke/MethodHandle" ∧ yX4_numbersOf.cls ≠ "java/lang/invoke/VarHandle" ∧ (parseMethodDescriptor yX4_numbersOf.desc).map (fun d => d.parameters.length) = some 1 := by decide +kernel
theorem hdX4_readAll : yX4_readAll.cls = RX4 ∧ yX4_readAll.cls ≠ "java/lang/invoke/MethodHandle" ∧ yX4_readAll.cls ≠ "java/lang/invoke/VarHandle" ∧ (parseMethodDescriptor yX4_readAll.desc).map (fun d => d.parameters.length) = some 1 := by decide +kernel
theorem hdX4_readItem : yX4_readItem.cls = RX4 ∧ yX4_readItem.cls ≠ "java/lang/invoke/MethodHandle" ∧ yX4_readItem.cls ≠ "java/lang/invoke/VarHandle" ∧ (parseMethodDescriptor yX4_readItem.desc).map (fun d => d.parameters.length) = some 1 := by decide +kernel
theorem hdX5_append : yX5_append.cls = RX5 ∧ yX5_append.cls ≠ "java/lang/invoke/MethodHandle" ∧ yX5_append.cls ≠ "java/lang/invoke/VarHandle" ∧ (parseMethodDescriptor yX5_append.desc).map (fun d => d.parameters.length) = some 1 := by decide +kernel
theorem hdX5_isDigit : yX5_isDigit.cls ≠ "java/lang/invoke/MethodHandle" ∧ yX5_isDigit.cls ≠ "java/lang/invoke/VarHandle" ∧ (parseMethodDescriptor yX5_isDigit.desc).map (fun d => d.parameters.length) = some 1 := by decide +kernel
theorem hdX5_isLetter : yX5_isLetter.cls ≠ "java/lang/invoke/MethodHandle" ∧ yX5_isLetter.cls ≠ "java/lang/invoke/VarHandle" ∧ (parseMethodDescriptor yX5_isLetter.desc).map (fun d => d.parameters.length) = some 1 := by decide +kernel
theorem hdX5_readName : yX5_readName.cls = RX5 ∧ yX5_readName.cls ≠ "java/lang/invoke/MethodHandle" ∧ yX5_readName.cls ≠ "java/lang/invoke/VarHandle" ∧ (parseMethodDescriptor yX5_readName.desc).map (fun d => d.parameters.length) = some 0 := by decide +kernel
theorem hdX5_readNumber : yX5_readNumber.cls = RX5 ∧ yX5_readNumber.cls ≠ "java/lang/invoke/MethodHandle" ∧ yX5_readNumber.cls ≠ "java/lang/invoke/VarHandle" ∧ (parseMethodDescriptor yX5_readNumber.desc).map (fun d => d.parameters.length) = some 0 := by decide +kernel
theorem hdX5_rewind : yX5_rewind.cls = RX5 ∧ yX5_rewind.cls ≠ "java/lang/invoke/MethodHandle" ∧ yX5_rewind.cls ≠ "java/lang/invoke/VarHandle" ∧ (parseMethodDescriptor yX5_rewind.desc).map (fun d => d.parameters.length) = some 0 := by decide +kernel
theorem hdX5_spells : yX5_spells.cls = RX5 ∧ yX5_spells.cls ≠ "java/lang/invoke/MethodHandle" ∧ yX5_spells.cls ≠ "java/lang/invoke/VarHandle" ∧ (parseMethodDescriptor yX5_spells.desc).map (fun d => d.parameters.length) = some 1 := by decide +kernel
theorem hdX5_step : yX5_step.cls = RX5 ∧ yX5_step.cls ≠ "java/lang/invoke/MethodHandle" ∧ yX5_step.cls ≠ "java/lang/invoke/VarHandle" ∧ (parseMethodDescriptor yX5_step.desc).map (fun d => d.parameters.length) = some 0 := by decide +kernel
theorem hdX6_back : yX6_back.cls = RX6 ∧ yX6_back.cls ≠ "java/lang/invoke/MethodHandle" ∧ yX6_back.cls ≠ "java/lang/invoke/VarHandle" ∧ (parseMethodDescriptor yX6_back.desc).map (fun d => d.parameters.length) = some 1 := by decide +kernel
theorem hdX6_burns : yX6_burns.cls = RX6 ∧ yX6_burns.cls ≠ "java/lang/invoke/MethodHandle" ∧ yX6_burns.cls ≠ "java/lang/invoke/VarHandle" ∧ (parseMethodDescriptor yX6_burns.desc).map (fun d => d.parameters.length) = some 1 := by decide +kernel
theorem hdX6_chain : yX6_chain.cls = RX6 ∧ yX6_chain.cls ≠ "java/lang/invoke/MethodHandle" ∧ yX6_chain.cls ≠ "java/lang/invoke/VarHandle" ∧ (parseMethodDescriptor yX6_chain.desc).map (fun d => d.parameters.length) = some 3 := by decide +kernel
theorem hdX6_clear : yX6_clear.cls = RX6 ∧ yX6_clear.cls ≠ "java/lang/invoke/MethodHandle" ∧ yX6_clear.cls ≠ "java/lang/invoke/VarHandle" ∧ (parseMethodDescriptor yX6_clear.desc).map (fun d => d.parameters.length) = some 0 := by decide +kernel
theorem hdX6_code : yX6_code.cls = RX6 ∧ yX6_code.cls ≠ "java/lang/invoke/MethodHandle" ∧ yX6_code.cls ≠ "java/lang/invoke/VarHandle" ∧ (parseMethodDescriptor yX6_code.desc).map (fun d => d.parameters.length) = some 3 := by decide +kernel
theorem hdX6_cook : yX6_cook.cls = RX6 ∧ yX6_cook.cls ≠ "java/lang/invoke/MethodHandle" ∧ yX6_cook.cls ≠ "java/lang/invoke/VarHandle" ∧ (parseMethodDescriptor yX6_cook.desc).map (fun d => d.parameters.length) = some 2 := by decide +kernel
theorem hdX6_couldCook : yX6_couldCook.cls = RX6 ∧ yX6_couldCook.cls ≠ "java/lang/invoke/MethodHandle" ∧ yX6_couldCook.cls ≠ "java/lang/invoke/VarHandle" ∧ (parseMethodDescriptor yX6_couldCook.desc).map (fun d => d.parameters.length) = some 2 := by decide +kernel
theorem hdX6_count : yX6_count.cls = RX6 ∧ yX6_count.cls ≠ "java/lang/invoke/MethodHandle" ∧ yX6_count.cls ≠ "java/lang/invoke/VarHandle" ∧ (parseMethodDescriptor yX6_count.desc).map (fun d => d.parameters.length) = some 1 := by decide +kernel
theorem hdX6_days : yX6_days.cls = RX6 ∧ yX6_days.cls ≠ "java/lang/invoke/MethodHandle" ∧ yX6_days.cls ≠ "java/lang/invoke/VarHandle" ∧ (parseMethodDescriptor yX6_days.desc).map (fun d => d.parameters.length) = some 1 := by decide +kernel
theorem hdX6_dish : yX6_dish.cls = RX6 ∧ yX6_dish.cls ≠ "java/lang/invoke/MethodHandle" ∧ yX6_dish.cls ≠ "java/lang/invoke/VarHandle" ∧ (parseMethodDescriptor yX6_dish.desc).map (fun d => d.parameters.length) = some 2 := by decide +kernel
theorem hdX6_drawn : yX6_drawn.cls = RX6 ∧ yX6_drawn.cls ≠ "java/lang/invoke/MethodHandle" ∧ yX6_drawn.cls ≠ "java/lang/invoke/VarHandle" ∧ (parseMethodDescriptor yX6_drawn.desc).map (fun d => d.parameters.length) = some 1 := by decide +kernel
theorem hdX6_feast : yX6_feast.cls = RX6 ∧ yX6_feast.cls ≠ "java/lang/invoke/MethodHandle" ∧ yX6_feast.cls ≠ "java/lang/invoke/VarHandle" ∧ (parseMethodDescriptor yX6_feast.desc).map (fun d => d.parameters.length) = some 2 := by decide +kernel
theorem hdX6_fog : yX6_fog.cls = RX6 ∧ yX6_fog.cls ≠ "java/lang/invoke/MethodHandle" ∧ yX6_fog.cls ≠ "java/lang/invoke/VarHandle" ∧ (parseMethodDescriptor yX6_fog.desc).map (fun d => d.parameters.length) = some 1 := by decide +kernel
theorem hdX6_gives : yX6_gives.cls = RX6 ∧ yX6_gives.cls ≠ "java/lang/invoke/MethodHandle" ∧ yX6_gives.cls ≠ "java/lang/invoke/VarHandle" ∧ (parseMethodDescriptor yX6_gives.desc).map (fun d => d.parameters.length) = some 4 := by decide +kernel
theorem hdX6_house : yX6_house.cls = RX6 ∧ yX6_house.cls ≠ "java/lang/invoke/MethodHandle" ∧ yX6_house.cls ≠ "java/lang/invoke/VarHandle" ∧ (parseMethodDescriptor yX6_house.desc).map (fun d => d.parameters.length) = some 2 := by decide +kernel
theorem hdX6_imageOf : yX6_imageOf.cls = RX6 ∧ yX6_imageOf.cls ≠ "java/lang/invoke/MethodHandle" ∧ yX6_imageOf.cls ≠ "java/lang/invoke/VarHandle" ∧ (parseMethodDescriptor yX6_imageOf.desc).map (fun d => d.parameters.length) = some 1 := by decide +kernel
theorem hdX6_isRow : yX6_isRow.cls ≠ "java/lang/invoke/MethodHandle" ∧ yX6_isRow.cls ≠ "java/lang/invoke/VarHandle" ∧ (parseMethodDescriptor yX6_isRow.desc).map (fun d => d.parameters.length) = some 3 := by decide +kernel
theorem hdX6_isSmoke : yX6_isSmoke.cls ≠ "java/lang/invoke/MethodHandle" ∧ yX6_isSmoke.cls ≠ "java/lang/invoke/VarHandle" ∧ (parseMethodDescriptor yX6_isSmoke.desc).map (fun d => d.parameters.length) = some 1 := by decide +kernel
theorem hdX6_isWord : yX6_isWord.cls ≠ "java/lang/invoke/MethodHandle" ∧ yX6_isWord.cls ≠ "java/lang/invoke/VarHandle" ∧ (parseMethodDescriptor yX6_isWord.desc).map (fun d => d.parameters.length) = some 1 := by decide +kernel
theorem hdX6_keep : yX6_keep.cls = RX6 ∧ yX6_keep.cls ≠ "java/lang/invoke/MethodHandle" ∧ yX6_keep.cls ≠ "java/lang/invoke/VarHandle" ∧ (parseMethodDescriptor yX6_keep.desc).map (fun d => d.parameters.length) = some 1 := by decide +kernel
theorem hdX6_leastTerms : yX6_leastTerms.cls ≠ "java/lang/invoke/MethodHandle" ∧ yX6_leastTerms.cls ≠ "java/lang/invoke/VarHandle" ∧ (parseMethodDescriptor yX6_leastTerms.desc).map (fun d => d.parameters.length) = some 3 := by decide +kernel
theorem hdX6_lot : yX6_lot.cls = RX6 ∧ yX6_lot.cls ≠ "java/lang/invoke/MethodHandle" ∧ yX6_lot.cls ≠ "java/lang/invoke/VarHandle" ∧ (parseMethodDescriptor yX6_lot.desc).map (fun d => d.parameters.length) = some 1 := by decide +kernel
theorem hdX6_mark : yX6_mark.cls = RX6 ∧ yX6_mark.cls ≠ "java/lang/invoke/MethodHandle" ∧ yX6_mark.cls ≠ "java/lang/invoke/VarHandle" ∧ (parseMethodDescriptor yX6_mark.desc).map (fun d => d.parameters.length) = some 2 := by decide +kernel
theorem hdX6_markOfBrides : yX6_markOfBrides.cls = RX6 ∧ yX6_markOfBrides.cls ≠ "java/lang/invoke/MethodHandle" ∧ yX6_markOfBrides.cls ≠ "java/lang/invoke/VarHandle" ∧ (parseMethodDescriptor yX6_markOfBrides.desc).map (fun d => d.parameters.length) = some 1 := by decide +kernel
theorem hdX6_markOfBurnt : yX6_markOfBurnt.cls = RX6 ∧ yX6_markOfBurnt.cls ≠ "java/lang/invoke/MethodHandle" ∧ yX6_markOfBurnt.cls ≠ "java/lang/invoke/VarHandle" ∧ (parseMethodDescriptor yX6_markOfBurnt.desc).map (fun d => d.parameters.length) = some 1 := by decide +kernel
theorem hdX6_markOfDish : yX6_markOfDish.cls = RX6 ∧ yX6_markOfDish.cls ≠ "java/lang/invoke/MethodHandle" ∧ yX6_markOfDish.cls ≠ "java/lang/invoke/VarHandle" ∧ (parseMethodDescriptor yX6_markOfDish.desc).map (fun d => d.parameters.length) = some 1 := by decide +kernel
theorem hdX6_markOfPoor : yX6_markOfPoor.cls = RX6 ∧ yX6_markOfPoor.cls ≠ "java/lang/invoke/MethodHandle" ∧ yX6_markOfPoor.cls ≠ "java/lang/invoke/VarHandle" ∧ (parseMethodDescriptor yX6_markOfPoor.desc).map (fun d => d.parameters.length) = some 1 := by decide +kernel
theorem hdX6_markOfRoast : yX6_markOfRoast.cls = RX6 ∧ yX6_markOfRoast.cls ≠ "java/lang/invoke/MethodHandle" ∧ yX6_markOfRoast.cls ≠ "java/lang/invoke/VarHandle" ∧ (parseMethodDescriptor yX6_markOfRoast.desc).map (fun d => d.parameters.length) = some 1 := by decide +kernel
theorem hdX6_markOfStew : yX6_markOfStew.cls = RX6 ∧ yX6_markOfStew.cls ≠ "java/lang/invoke/MethodHandle" ∧ yX6_markOfStew.cls ≠ "java/lang/invoke/VarHandle" ∧ (parseMethodDescriptor yX6_markOfStew.desc).map (fun d => d.parameters.length) = some 1 := by decide +kernel
theorem hdX6_means : yX6_means.cls = RX6 ∧ yX6_means.cls ≠ "java/lang/invoke/MethodHandle" ∧ yX6_means.cls ≠ "java/lang/invoke/VarHandle" ∧ (parseMethodDescriptor yX6_means.desc).map (fun d => d.parameters.length) = some 1 := by decide +kernel
theorem hdX6_nearest : yX6_nearest.cls = RX6 ∧ yX6_nearest.cls ≠ "java/lang/invoke/MethodHandle" ∧ yX6_nearest.cls ≠ "java/lang/invoke/VarHandle" ∧ (parseMethodDescriptor yX6_nearest.desc).map (fun d => d.parameters.length) = some 4 := by decide +kernel
theorem hdX6_plume : yX6_plume.cls = RX6 ∧ yX6_plume.cls ≠ "java/lang/invoke/MethodHandle" ∧ yX6_plume.cls ≠ "java/lang/invoke/VarHandle" ∧ (parseMethodDescriptor yX6_plume.desc).map (fun d => d.parameters.length) = some 2 := by decide +kernel
theorem hdX6_reads : yX6_reads.cls = RX6 ∧ yX6_reads.cls ≠ "java/lang/invoke/MethodHandle" ∧ yX6_reads.cls ≠ "java/lang/invoke/VarHandle" ∧ (parseMethodDescriptor yX6_reads.desc).map (fun d => d.parameters.length) = some 2 := by decide +kernel
theorem hdX6_says : yX6_says.cls = RX6 ∧ yX6_says.cls ≠ "java/lang/invoke/MethodHandle" ∧ yX6_says.cls ≠ "java/lang/invoke/VarHandle" ∧ (parseMethodDescriptor yX6_says.desc).map (fun d => d.parameters.length) = some 5 := by decide +kernel
theorem hdX6_silent : yX6_silent.cls = RX6 ∧ yX6_silent.cls ≠ "java/lang/invoke/MethodHandle" ∧ yX6_silent.cls ≠ "java/lang/invoke/VarHandle" ∧ (parseMethodDescriptor yX6_silent.desc).map (fun d => d.parameters.length) = some 1 := by decide +kernel
theorem hdX6_trace : yX6_trace.cls = RX6 ∧ yX6_trace.cls ≠ "java/lang/invoke/MethodHandle" ∧ yX6_trace.cls ≠ "java/lang/invoke/VarHandle" ∧ (parseMethodDescriptor yX6_trace.desc).map (fun d => d.parameters.length) = some 0 := by decide +kernel
theorem hdX6_type : yX6_type.cls = RX6 ∧ yX6_type.cls ≠ "java/lang/invoke/MethodHandle" ∧ yX6_type.cls ≠ "java/lang/invoke/VarHandle" ∧ (parseMethodDescriptor yX6_type.desc).map (fun d => d.parameters.length) = some 2 := by decide +kernel
theorem hdX6_undo : yX6_undo.cls = RX6 ∧ yX6_undo.cls ≠ "java/lang/invoke/MethodHandle" ∧ yX6_undo.cls ≠ "java/lang/invoke/VarHandle" ∧ (parseMethodDescriptor yX6_undo.desc).map (fun d => d.parameters.length) = some 0 := by decide +kernel
theorem hdX6_valley : yX6_valley.cls = RX6 ∧ yX6_valley.cls ≠ "java/lang/invoke/MethodHandle" ∧ yX6_valley.cls ≠ "java/lang/invoke/VarHandle" ∧ (parseMethodDescriptor yX6_valley.desc).map (fun d => d.parameters.length) = some 0 := by decide +kernel
theorem hdX6_weightOf : yX6_weightOf.cls = RX6 ∧ yX6_weightOf.cls ≠ "java/lang/invoke/MethodHandle" ∧ yX6_weightOf.cls ≠ "java/lang/invoke/VarHandle" ∧ (parseMethodDescriptor yX6_weightOf.desc).map (fun d => d.parameters.length) = some 2 := by decide +kernel
theorem hdX6_who : yX6_who.cls = RX6 ∧ yX6_who.cls ≠ "java/lang/invoke/MethodHandle" ∧ yX6_who.cls ≠ "java/lang/invoke/VarHandle" ∧ (parseMethodDescriptor yX6_who.desc).map (fun d => d.parameters.length) = some 3 := by decide +kernel
theorem hdX7_areWords : yX7_areWords.cls ≠ "java/lang/invoke/MethodHandle" ∧ yX7_areWords.cls ≠ "java/lang/invoke/VarHandle" ∧ (parseMethodDescriptor yX7_areWords.desc).map (fun d => d.parameters.length) = some 3 := by decide +kernel
theorem hdX7_ask : yX7_ask.cls = RX7 ∧ yX7_ask.cls ≠ "java/lang/invoke/MethodHandle" ∧ yX7_ask.cls ≠ "java/lang/invoke/VarHandle" ∧ (parseMethodDescriptor yX7_ask.desc).map (fun d => d.parameters.length) = some 3 := by decide +kernel
theorem hdX7_back : yX7_back.cls = RX7 ∧ yX7_back.cls ≠ "java/lang/invoke/MethodHandle" ∧ yX7_back.cls ≠ "java/lang/invoke/VarHandle" ∧ (parseMethodDescriptor yX7_back.desc).map (fun d => d.parameters.length) = some 1 := by decide +kernel
theorem hdX7_bitsIn : yX7_bitsIn.cls ≠ "java/lang/invoke/MethodHandle" ∧ yX7_bitsIn.cls ≠ "java/lang/invoke/VarHandle" ∧ (parseMethodDescriptor yX7_bitsIn.desc).map (fun d => d.parameters.length) = some 1 := by decide +kernel
theorem hdX7_burns : yX7_burns.cls = RX7 ∧ yX7_burns.cls ≠ "java/lang/invoke/MethodHandle" ∧ yX7_burns.cls ≠ "java/lang/invoke/VarHandle" ∧ (parseMethodDescriptor yX7_burns.desc).map (fun d => d.parameters.length) = some 1 := by decide +kernel
theorem hdX7_canCook : yX7_canCook.cls = RX7 ∧ yX7_canCook.cls ≠ "java/lang/invoke/MethodHandle" ∧ yX7_canCook.cls ≠ "java/lang/invoke/VarHandle" ∧ (parseMethodDescriptor yX7_canCook.desc).map (fun d => d.parameters.length) = some 2 := by decide +kernel
theorem hdX7_chain : yX7_chain.cls = RX7 ∧ yX7_chain.cls ≠ "java/lang/invoke/MethodHandle" ∧ yX7_chain.cls ≠ "java/lang/invoke/VarHandle" ∧ (parseMethodDescriptor yX7_chain.desc).map (fun d => d.parameters.length) = some 3 := by decide +kernel
theorem hdX7_clear : yX7_clear.cls = RX7 ∧ yX7_clear.cls ≠ "java/lang/invoke/MethodHandle" ∧ yX7_clear.cls ≠ "java/lang/invoke/VarHandle" ∧ (parseMethodDescriptor yX7_clear.desc).map (fun d => d.parameters.length) = some 0 := by decide +kernel
theorem hdX7_code : yX7_code.cls = RX7 ∧ yX7_code.cls ≠ "java/lang/invoke/MethodHandle" ∧ yX7_code.cls ≠ "java/lang/invoke/VarHandle" ∧ (parseMethodDescriptor yX7_code.desc).map (fun d => d.parameters.length) = some 3 := by decide +kernel
theorem hdX7_common : yX7_common.cls ≠ "java/lang/invoke/MethodHandle" ∧ yX7_common.cls ≠ "java/lang/invoke/VarHandle" ∧ (parseMethodDescriptor yX7_common.desc).map (fun d => d.parameters.length) = some 2 := by decide +kernel
theorem hdX7_cook : yX7_cook.cls = RX7 ∧ yX7_cook.cls ≠ "java/lang/invoke/MethodHandle" ∧ yX7_cook.cls ≠ "java/lang/invoke/VarHandle" ∧ (parseMethodDescriptor yX7_cook.desc).map (fun d => d.parameters.length) = some 2 := by decide +kernel
theorem hdX7_copy : yX7_copy.cls = RX7 ∧ yX7_copy.cls ≠ "java/lang/invoke/MethodHandle" ∧ yX7_copy.cls ≠ "java/lang/invoke/VarHandle" ∧ (parseMethodDescriptor yX7_copy.desc).map (fun d => d.parameters.length) = some 2 := by decide +kernel
theorem hdX7_count : yX7_count.cls = RX7 ∧ yX7_count.cls ≠ "java/lang/invoke/MethodHandle" ∧ yX7_count.cls ≠ "java/lang/invoke/VarHandle" ∧ (parseMethodDescriptor yX7_count.desc).map (fun d => d.parameters.length) = some 1 := by decide +kernel
theorem hdX7_days : yX7_days.cls = RX7 ∧ yX7_days.cls ≠ "java/lang/invoke/MethodHandle" ∧ yX7_days.cls ≠ "java/lang/invoke/VarHandle" ∧ (parseMethodDescriptor yX7_days.desc).map (fun d => d.parameters.length) = some 1 := by decide +kernel
theorem hdX7_dish : yX7_dish.cls = RX7 ∧ yX7_dish.cls ≠ "java/lang/invoke/MethodHandle" ∧ yX7_dish.cls ≠ "java/lang/invoke/VarHandle" ∧ (parseMethodDescriptor yX7_dish.desc).map (fun d => d.parameters.length) = some 2 := by decide +kernel
theorem hdX7_drawn : yX7_drawn.cls = RX7 ∧ yX7_drawn.cls ≠ "java/lang/invoke/MethodHandle" ∧ yX7_drawn.cls ≠ "java/lang/invoke/VarHandle" ∧ (parseMethodDescriptor yX7_drawn.desc).map (fun d => d.parameters.length) = some 1 := by decide +kernel
theorem hdX7_due : yX7_due.cls = RX7 ∧ yX7_due.cls ≠ "java/lang/invoke/MethodHandle" ∧ yX7_due.cls ≠ "java/lang/invoke/VarHandle" ∧ (parseMethodDescriptor yX7_due.desc).map (fun d => d.parameters.length) = some 1 := by decide +kernel
theorem hdX7_feast : yX7_feast.cls = RX7 ∧ yX7_feast.cls ≠ "java/lang/invoke/MethodHandle" ∧ yX7_feast.cls ≠ "java/lang/invoke/VarHandle" ∧ (parseMethodDescriptor yX7_feast.desc).map (fun d => d.parameters.length) = some 2 := by decide +kernel
theorem hdX7_fog : yX7_fog.cls = RX7 ∧ yX7_fog.cls ≠ "java/lang/invoke/MethodHandle" ∧ yX7_fog.cls ≠ "java/lang/invoke/VarHandle" ∧ (parseMethodDescriptor yX7_fog.desc).map (fun d => d.parameters.length) = some 1 := by decide +kernel
theorem hdX7_gives : yX7_gives.cls = RX7 ∧ yX7_gives.cls ≠ "java/lang/invoke/MethodHandle" ∧ yX7_gives.cls ≠ "java/lang/invoke/VarHandle" ∧ (parseMethodDescriptor yX7_gives.desc).map (fun d => d.parameters.length) = some 4 := by decide +kernel
theorem hdX7_hasAll : yX7_hasAll.cls = RX7 ∧ yX7_hasAll.cls ≠ "java/lang/invoke/MethodHandle" ∧ yX7_hasAll.cls ≠ "java/lang/invoke/VarHandle" ∧ (parseMethodDescriptor yX7_hasAll.desc).map (fun d => d.parameters.length) = some 1 := by decide +kernel
theorem hdX7_here : yX7_here.cls = RX7 ∧ yX7_here.cls ≠ "java/lang/invoke/MethodHandle" ∧ yX7_here.cls ≠ "java/lang/invoke/VarHandle" ∧ (parseMethodDescriptor yX7_here.desc).map (fun d => d.parameters.length) = some 0 := by decide +kernel
theorem hdX7_house : yX7_house.cls = RX7 ∧ yX7_house.cls ≠ "java/lang/invoke/MethodHandle" ∧ yX7_house.cls ≠ "java/lang/invoke/VarHandle" ∧ (parseMethodDescriptor yX7_house.desc).map (fun d => d.parameters.length) = some 2 := by decide +kernel
theorem hdX7_in : yX7_in.cls ≠ "java/lang/invoke/MethodHandle" ∧ yX7_in.cls ≠ "java/lang/invoke/VarHandle" ∧ (parseMethodDescriptor yX7_in.desc).map (fun d => d.parameters.length) = some 3 := by decide +kernel
theorem hdX7_isDish : yX7_isDish.cls = RX7 ∧ yX7_isDish.cls ≠ "java/lang/invoke/MethodHandle" ∧ yX7_isDish.cls ≠ "java/lang/invoke/VarHandle" ∧ (parseMethodDescriptor yX7_isDish.desc).map (fun d => d.parameters.length) = some 1 := by decide +kernel
theorem hdX7_isHouse : yX7_isHouse.cls = RX7 ∧ yX7_isHouse.cls ≠ "java/lang/invoke/MethodHandle" ∧ yX7_isHouse.cls ≠ "java/lang/invoke/VarHandle" ∧ (parseMethodDescriptor yX7_isHouse.desc).map (fun d => d.parameters.length) = some 1 := by decide +kernel
theorem hdX7_isRow : yX7_isRow.cls = RX7 ∧ yX7_isRow.cls ≠ "java/lang/invoke/MethodHandle" ∧ yX7_isRow.cls ≠ "java/lang/invoke/VarHandle" ∧ (parseMethodDescriptor yX7_isRow.desc).map (fun d => d.parameters.length) = some 2 := by decide +kernel
theorem hdX7_isSmoke : yX7_isSmoke.cls ≠ "java/lang/invoke/MethodHandle" ∧ yX7_isSmoke.cls ≠ "java/lang/invoke/VarHandle" ∧ (parseMethodDescriptor yX7_isSmoke.desc).map (fun d => d.parameters.length) = some 1 := by decide +kernel
theorem hdX7_keep : yX7_keep.cls = RX7 ∧ yX7_keep.cls ≠ "java/lang/invoke/MethodHandle" ∧ yX7_keep.cls ≠ "java/lang/invoke/VarHandle" ∧ (parseMethodDescriptor yX7_keep.desc).map (fun d => d.parameters.length) = some 1 := by decide +kernel
theorem hdX7_leastOf : yX7_leastOf.cls = RX7 ∧ yX7_leastOf.cls ≠ "java/lang/invoke/MethodHandle" ∧ yX7_leastOf.cls ≠ "java/lang/invoke/VarHandle" ∧ (parseMethodDescriptor yX7_leastOf.desc).map (fun d => d.parameters.length) = some 1 := by decide +kernel
theorem hdX7_lot : yX7_lot.cls = RX7 ∧ yX7_lot.cls ≠ "java/lang/invoke/MethodHandle" ∧ yX7_lot.cls ≠ "java/lang/invoke/VarHandle" ∧ (parseMethodDescriptor yX7_lot.desc).map (fun d => d.parameters.length) = some 1 := by decide +kernel
theorem hdX7_mark : yX7_mark.cls = RX7 ∧ yX7_mark.cls ≠ "java/lang/invoke/MethodHandle" ∧ yX7_mark.cls ≠ "java/lang/invoke/VarHandle" ∧ (parseMethodDescriptor yX7_mark.desc).map (fun d => d.parameters.length) = some 2 := by decide +kernel
theorem hdX7_meaning : yX7_meaning.cls ≠ "java/lang/invoke/MethodHandle" ∧ yX7_meaning.cls ≠ "java/lang/invoke/VarHandle" ∧ (parseMethodDescriptor yX7_meaning.desc).map (fun d => d.parameters.length) = some 1 := by decide +kernel
theorem hdX7_means : yX7_means.cls = RX7 ∧ yX7_means.cls ≠ "java/lang/invoke/MethodHandle" ∧ yX7_means.cls ≠ "java/lang/invoke/VarHandle" ∧ (parseMethodDescriptor yX7_means.desc).map (fun d => d.parameters.length) = some 1 := by decide +kernel
theorem hdX7_meant : yX7_meant.cls = RX7 ∧ yX7_meant.cls ≠ "java/lang/invoke/MethodHandle" ∧ yX7_meant.cls ≠ "java/lang/invoke/VarHandle" ∧ (parseMethodDescriptor yX7_meant.desc).map (fun d => d.parameters.length) = some 1 := by decide +kernel
theorem hdX7_nearest : yX7_nearest.cls = RX7 ∧ yX7_nearest.cls ≠ "java/lang/invoke/MethodHandle" ∧ yX7_nearest.cls ≠ "java/lang/invoke/VarHandle" ∧ (parseMethodDescriptor yX7_nearest.desc).map (fun d => d.parameters.length) = some 4 := by decide +kernel
theorem hdX7_next : yX7_next.cls = RX7 ∧ yX7_next.cls ≠ "java/lang/invoke/MethodHandle" ∧ yX7_next.cls ≠ "java/lang/invoke/VarHandle" ∧ (parseMethodDescriptor yX7_next.desc).map (fun d => d.parameters.length) = some 0 := by decide +kernel
theorem hdX7_nextSupper : yX7_nextSupper.cls = RX7 ∧ yX7_nextSupper.cls ≠ "java/lang/invoke/MethodHandle" ∧ yX7_nextSupper.cls ≠ "java/lang/invoke/VarHandle" ∧ (parseMethodDescriptor yX7_nextSupper.desc).map (fun d => d.parameters.length) = some 0 := by decide +kernel
theorem hdX7_number : yX7_number.cls = RX7 ∧ yX7_number.cls ≠ "java/lang/invoke/MethodHandle" ∧ yX7_number.cls ≠ "java/lang/invoke/VarHandle" ∧ (parseMethodDescriptor yX7_number.desc).map (fun d => d.parameters.length) = some 1 := by decide +kernel
theorem hdX7_plume : yX7_plume.cls = RX7 ∧ yX7_plume.cls ≠ "java/lang/invoke/MethodHandle" ∧ yX7_plume.cls ≠ "java/lang/invoke/VarHandle" ∧ (parseMethodDescriptor yX7_plume.desc).map (fun d => d.parameters.length) = some 2 := by decide +kernel
theorem hdX7_readAs : yX7_readAs.cls = RX7 ∧ yX7_readAs.cls ≠ "java/lang/invoke/MethodHandle" ∧ yX7_readAs.cls ≠ "java/lang/invoke/VarHandle" ∧ (parseMethodDescriptor yX7_readAs.desc).map (fun d => d.parameters.length) = some 2 := by decide +kernel
theorem hdX7_readItem : yX7_readItem.cls = RX7 ∧ yX7_readItem.cls ≠ "java/lang/invoke/MethodHandle" ∧ yX7_readItem.cls ≠ "java/lang/invoke/VarHandle" ∧ (parseMethodDescriptor yX7_readItem.desc).map (fun d => d.parameters.length) = some 0 := by decide +kernel
theorem hdX7_reads : yX7_reads.cls = RX7 ∧ yX7_reads.cls ≠ "java/lang/invoke/MethodHandle" ∧ yX7_reads.cls ≠ "java/lang/invoke/VarHandle" ∧ (parseMethodDescriptor yX7_reads.desc).map (fun d => d.parameters.length) = some 2 := by decide +kernel
theorem hdX7_saidBy : yX7_saidBy.cls = RX7 ∧ yX7_saidBy.cls ≠ "java/lang/invoke/MethodHandle" ∧ yX7_saidBy.cls ≠ "java/lang/invoke/VarHandle" ∧ (parseMethodDescriptor yX7_saidBy.desc).map (fun d => d.parameters.length) = some 3 := by decide +kernel
theorem hdX7_says : yX7_says.cls = RX7 ∧ yX7_says.cls ≠ "java/lang/invoke/MethodHandle" ∧ yX7_says.cls ≠ "java/lang/invoke/VarHandle" ∧ (parseMethodDescriptor yX7_says.desc).map (fun d => d.parameters.length) = some 5 := by decide +kernel
theorem hdX7_silent : yX7_silent.cls = RX7 ∧ yX7_silent.cls ≠ "java/lang/invoke/MethodHandle" ∧ yX7_silent.cls ≠ "java/lang/invoke/VarHandle" ∧ (parseMethodDescriptor yX7_silent.desc).map (fun d => d.parameters.length) = some 1 := by decide +kernel
theorem hdX7_storeOf : yX7_storeOf.cls = RX7 ∧ yX7_storeOf.cls ≠ "java/lang/invoke/MethodHandle" ∧ yX7_storeOf.cls ≠ "java/lang/invoke/VarHandle" ∧ (parseMethodDescriptor yX7_storeOf.desc).map (fun d => d.parameters.length) = some 1 := by decide +kernel
theorem hdX7_trace : yX7_trace.cls = RX7 ∧ yX7_trace.cls ≠ "java/lang/invoke/MethodHandle" ∧ yX7_trace.cls ≠ "java/lang/invoke/VarHandle" ∧ (parseMethodDescriptor yX7_trace.desc).map (fun d => d.parameters.length) = some 0 := by decide +kernel
theorem hdX7_type : yX7_type.cls = RX7 ∧ yX7_type.cls ≠ "java/lang/invoke/MethodHandle" ∧ yX7_type.cls ≠ "java/lang/invoke/VarHandle" ∧ (parseMethodDescriptor yX7_type.desc).map (fun d => d.parameters.length) = some 2 := by decide +kernel
theorem hdX7_undo : yX7_undo.cls = RX7 ∧ yX7_undo.cls ≠ "java/lang/invoke/MethodHandle" ∧ yX7_undo.cls ≠ "java/lang/invoke/VarHandle" ∧ (parseMethodDescriptor yX7_undo.desc).map (fun d => d.parameters.length) = some 0 := by decide +kernel
theorem hdX7_unitsFor : yX7_unitsFor.cls = RX7 ∧ yX7_unitsFor.cls ≠ "java/lang/invoke/MethodHandle" ∧ yX7_unitsFor.cls ≠ "java/lang/invoke/VarHandle" ∧ (parseMethodDescriptor yX7_unitsFor.desc).map (fun d => d.parameters.length) = some 2 := by decide +kernel
theorem hdX7_unitsOf : yX7_unitsOf.cls = RX7 ∧ yX7_unitsOf.cls ≠ "java/lang/invoke/MethodHandle" ∧ yX7_unitsOf.cls ≠ "java/lang/invoke/VarHandle" ∧ (parseMethodDescriptor yX7_unitsOf.desc).map (fun d => d.parameters.length) = some 1 := by decide +kernel
theorem hdX7_valley : yX7_valley.cls = RX7 ∧ yX7_valley.cls ≠ "java/lang/invoke/MethodHandle" ∧ yX7_valley.cls ≠ "java/lang/invoke/VarHandle" ∧ (parseMethodDescriptor yX7_valley.desc).map (fun d => d.parameters.length) = some 0 := by decide +kernel
theorem hdX7_who : yX7_who.cls = RX7 ∧ yX7_who.cls ≠ "java/lang/invoke/MethodHandle" ∧ yX7_who.cls ≠ "java/lang/invoke/VarHandle" ∧ (parseMethodDescriptor yX7_who.desc).map (fun d => d.parameters.length) = some 3 := by decide +kernel
end
section
def jText_append (x1 : Int32) (S : St) : Option (St) :=
  if (S.1 1 1) < 300 then (x_gd 300 (S.1 1 1) (x_lt (upI S 2 (Int32.toNatClampNeg (S.1 1 1)) x1) (fun S1 => x_lt (upI S1 1 1 ((S1.1 1 1) + 1)) (fun S2 => some S2)))) else (some S)
def jSmoke_type_b36 (K36 : Int64 → Int32 → St → Option (Int32 × St)) (y1 : Int64) (x4 : Int32) (S : St) : Option (Int32 × St) :=
  if x4 < 0 then (some (S.1 1 1, S)) else (x_bv (jText_append ((Int64.toInt32 (x_lushr y1 (8 * x4))) &&& 255) S) (fun S2 => K36 y1 (x4 + (-1)) S2))
def jSmoke_type_h36 : Nat → Int64 → Int32 → St → Option (Int32 × St)
  | 0, _, _, _ => none
  | n + 1, y1, x4, S => jSmoke_type_b36 (jSmoke_type_h36 n) y1 x4 S
def jSmoke_type (y1 : Int64) (x3 : Int32) (S : St) : Option (Int32 × St) :=
  if x3 < 1 then (some ((-1), S)) else (if x3 ≤ 8 then (if ((S.1 1 1) + x3) ≤ 300 then (x_lt (x3 - 1) (fun v1 => jSmoke_type_h36 FU y1 v1 S)) else (some ((-3), S))) else (some ((-1), S)))
def jSmoke_clear (S : St) : Option (Int32 × St) :=
  x_lt (S.1 1 1) (fun v1 => x_lt (upI S 1 1 0) (fun S2 => some (v1, S2)))
def jText_isDigit (x0 : Int32) (S : St) : Option (Int32 × St) :=
  if x0 < 48 then (x_nr 0 (some (0, S))) else (if 57 < x0 then (x_nr 0 (some (0, S))) else (x_nr 1 (some (1, S))))
def jText_isLetter (x0 : Int32) (S : St) : Option (Int32 × St) :=
  if x0 < 97 then (x_nr 0 (some (0, S))) else (if 122 < x0 then (x_nr 0 (some (0, S))) else (x_nr 1 (some (1, S))))
def jText_spells_0_b20 (K20 : Int32 → St → Option (Int32 × St)) (x2 : Int32) (S : St) : Option (Int32 × St) :=
  if 5 ≤ x2 then (x_nr 1 (some (1, S))) else (x_ld (S.1 2) 300 ((S.1 1 3) + x2) (fun v1 => x_ld (sc_ch 0) 5 x2 (fun v2 => if v1 = v2 then (K20 (x2 + 1) S) else (x_nr 0 (some (0, S))))))
def jText_spells_0_h20 : Nat → Int32 → St → Option (Int32 × St)
  | 0, _, _ => none
  | n + 1, x2, S => jText_spells_0_b20 (jText_spells_0_h20 n) x2 S
def jText_spells_0 (S : St) : Option (Int32 × St) :=
  if ((S.1 1 2) - (S.1 1 3)) = 5 then (jText_spells_0_h20 FU 0 S) else (x_nr 0 (some (0, S)))
def jText_spells_1_b20 (K20 : Int32 → St → Option (Int32 × St)) (x2 : Int32) (S : St) : Option (Int32 × St) :=
  if 4 ≤ x2 then (x_nr 1 (some (1, S))) else (x_ld (S.1 2) 300 ((S.1 1 3) + x2) (fun v1 => x_ld (sc_ch 1) 4 x2 (fun v2 => if v1 = v2 then (K20 (x2 + 1) S) else (x_nr 0 (some (0, S))))))
def jText_spells_1_h20 : Nat → Int32 → St → Option (Int32 × St)
  | 0, _, _ => none
  | n + 1, x2, S => jText_spells_1_b20 (jText_spells_1_h20 n) x2 S
def jText_spells_1 (S : St) : Option (Int32 × St) :=
  if ((S.1 1 2) - (S.1 1 3)) = 4 then (jText_spells_1_h20 FU 0 S) else (x_nr 0 (some (0, S)))
def jText_spells_2_b20 (K20 : Int32 → St → Option (Int32 × St)) (x2 : Int32) (S : St) : Option (Int32 × St) :=
  if 3 ≤ x2 then (x_nr 1 (some (1, S))) else (x_ld (S.1 2) 300 ((S.1 1 3) + x2) (fun v1 => x_ld (sc_ch 2) 3 x2 (fun v2 => if v1 = v2 then (K20 (x2 + 1) S) else (x_nr 0 (some (0, S))))))
def jText_spells_2_h20 : Nat → Int32 → St → Option (Int32 × St)
  | 0, _, _ => none
  | n + 1, x2, S => jText_spells_2_b20 (jText_spells_2_h20 n) x2 S
def jText_spells_2 (S : St) : Option (Int32 × St) :=
  if ((S.1 1 2) - (S.1 1 3)) = 3 then (jText_spells_2_h20 FU 0 S) else (x_nr 0 (some (0, S)))
def jText_readName_b39 (S : St) : Option (Int32 × St) :=
  x_bd (jText_spells_0 S) (fun v2 S1 => if v2 = 0 then (x_bd (jText_spells_1 S1) (fun v4 S3 => if v4 = 0 then (x_bd (jText_spells_2 S3) (fun v6 S5 => if v6 = 0 then (some (1, S5)) else (some (6, S5)))) else (some (5, S3)))) else (some (4, S1)))
def jText_readName_b0 (K0 : St → Option (Int32 × St)) (S : St) : Option (Int32 × St) :=
  if (S.1 1 1) ≤ (S.1 1 2) then (jText_readName_b39 S) else (x_ld (S.1 2) 300 (S.1 1 2) (fun v7 => x_bd (jText_isLetter v7 S) (fun v9 S8 => if v9 = 0 then (jText_readName_b39 S8) else (x_lt (upI S8 1 2 ((S8.1 1 2) + 1)) (fun S10 => K0 S10)))))
def jText_readName_h0 : Nat → St → Option (Int32 × St)
  | 0, _ => none
  | n + 1, S => jText_readName_b0 (jText_readName_h0 n) S
def jText_readName (S : St) : Option (Int32 × St) := jText_readName_h0 FU S
def jText_readNumber_b96 (x1 : Int32) (S : St) : Option (Int32 × St) :=
  x_lt ((S.1 1 2) - (S.1 1 3)) (fun v2 => if 2 < v2 then (some (1, S)) else (if v2 ≤ 1 then (some (2, S)) else (if x1 = 0 then (some (2, S)) else (some (1, S)))))
def jText_readNumber_b83 (K20 : Int32 → St → Option (Int32 × St)) (x1 : Int32) (S : St) : Option (Int32 × St) :=
  x_lt (upI S 1 2 ((S.1 1 2) + 1)) (fun S6 => K20 x1 S6)
def jText_readNumber_b20 (K20 : Int32 → St → Option (Int32 × St)) (x1 : Int32) (S : St) : Option (Int32 × St) :=
  if (S.1 1 1) ≤ (S.1 1 2) then (jText_readNumber_b96 x1 S) else (x_ld (S.1 2) 300 (S.1 1 2) (fun v3 => x_bd (jText_isDigit v3 S) (fun v5 S4 => if v5 = 0 then (jText_readNumber_b96 x1 S4) else (if 2 ≤ ((S4.1 1 2) - (S4.1 1 3)) then (jText_readNumber_b83 K20 x1 S4) else (x_ld (S4.1 2) 300 (S4.1 1 2) (fun v7 => x_lt (upI S4 1 5 ((((S4.1 1 5) * 10) + v7) - 48)) (fun S8 => jText_readNumber_b83 K20 x1 S8)))))))
def jText_readNumber_h20 : Nat → Int32 → St → Option (Int32 × St)
  | 0, _, _ => none
  | n + 1, x1, S => jText_readNumber_b20 (jText_readNumber_h20 n) x1 S
def jText_readNumber (S : St) : Option (Int32 × St) :=
  x_ld (S.1 2) 300 (S.1 1 3) (fun v1 => if v1 = 48 then (jText_readNumber_h20 FU 1 S) else (jText_readNumber_h20 FU 0 S))
def jText_step_b142 (s0 : Int32) (S : St) : Option (St) :=
  x_lt (upI S 1 4 s0) (fun S10 => x_lt (upI S10 1 2 ((S10.1 1 2) + 1)) (fun S11 => some S11))
def jText_step_b38 (S : St) : Option (St) :=
  x_lt (upI S 1 3 (S.1 1 2)) (fun S1 => x_lt (upI S1 1 5 0) (fun S2 => if (S2.1 1 2) < (S2.1 1 1) then (x_ld (S2.1 2) 300 (S2.1 1 2) (fun v3 => x_bd (jText_isDigit v3 S2) (fun v5 S4 => if v5 = 0 then (x_ld (S4.1 2) 300 (S4.1 1 2) (fun v6 => x_bd (jText_isLetter v6 S4) (fun v8 S7 => if v8 = 0 then (x_ld (S7.1 2) 300 (S7.1 1 2) (fun v9 => if v9 = 59 then (jText_step_b142 3 S7) else (jText_step_b142 1 S7))) else (x_bd (jText_readName S7) (fun v13 S12 => x_lt (upI S12 1 4 v13) (fun S14 => some S14)))))) else (x_bd (jText_readNumber S4) (fun v16 S15 => x_lt (upI S15 1 4 v16) (fun S17 => some S17)))))) else (x_lt (upI S2 1 4 0) (fun S18 => some S18))))
def jText_step_b0 (K0 : St → Option (St)) (S : St) : Option (St) :=
  if (S.1 1 1) ≤ (S.1 1 2) then (jText_step_b38 S) else (x_ld (S.1 2) 300 (S.1 1 2) (fun v19 => if v19 = 32 then (x_lt (upI S 1 2 ((S.1 1 2) + 1)) (fun S20 => K0 S20)) else (jText_step_b38 S)))
def jText_step_h0 : Nat → St → Option (St)
  | 0, _ => none
  | n + 1, S => jText_step_b0 (jText_step_h0 n) S
def jText_step (S : St) : Option (St) := jText_step_h0 FU S
def jText_rewind (S : St) : Option (St) :=
  x_lt (upI S 1 2 0) (fun S1 => x_bv (jText_step S1) (fun S2 => some S2))
def jTelling_mayBegin (x1 : Int32) (S : St) : Option (Int32 × St) :=
  if x1 = 4 then (if 6 ≤ (S.1 9 3) then (x_nr 0 (some (0, S))) else (x_nr 1 (some (1, S)))) else (if x1 = 5 then (if 8 ≤ (S.1 4 4) then (x_nr 0 (some (0, S))) else (x_nr 1 (some (1, S)))) else (if x1 = 6 then (if (S.1 3 3) = 0 then (x_nr 1 (some (1, S))) else (x_nr 0 (some (0, S)))) else (x_nr 0 (some (0, S)))))
def jTelling_numbersOf (x0 : Int32) (S : St) : Option (Int32 × St) :=
  if x0 = 4 then (some (5, S)) else (if x0 = 5 then (some (7, S)) else (if x0 = 6 then (some (1, S)) else (some (0, S))))
def jMenu_list_b21 (K21 : Int32 → Int32 → St → Option (St)) (x2 : Int32) (x3 : Int32) (S : St) : Option (St) :=
  if 5 ≤ x3 then (x_gd 8 (S.1 4 4) (x_lt (upI S 6 (Int32.toNatClampNeg (S.1 4 4)) x2) (fun S1 => x_ld (S1.1 13) 7 5 (fun v2 => x_gd 8 (S1.1 4 4) (x_lt (upI S1 7 (Int32.toNatClampNeg (S1.1 4 4)) v2) (fun S3 => x_ld (S3.1 13) 7 6 (fun v4 => x_gd 8 (S3.1 4 4) (x_lt (upI S3 8 (Int32.toNatClampNeg (S3.1 4 4)) v4) (fun S5 => x_lt (upI S5 4 4 ((S5.1 4 4) + 1)) (fun S6 => some S6)))))))))) else (x_ld (S.1 13) 7 x3 (fun v7 => x_gd 40 (((S.1 4 4) * 5) + x3) (x_lt (upI S 5 (Int32.toNatClampNeg (((S.1 4 4) * 5) + x3)) v7) (fun S8 => x_ld (S8.1 13) 7 x3 (fun v9 => x_lt (x2 + v9) (fun v10 => K21 v10 (x3 + 1) S8))))))
def jMenu_list_h21 : Nat → Int32 → Int32 → St → Option (St)
  | 0, _, _, _ => none
  | n + 1, x2, x3, S => jMenu_list_b21 (jMenu_list_h21 n) x2 x3 S
def jMenu_list (S : St) : Option (St) :=
  if 8 ≤ (S.1 4 4) then (some S) else (if 7 ≤ 7 then (jMenu_list_h21 FU 0 0 S) else (some S))
def jSuppers_settle_b18 (K18 : Int32 → St → Option (St)) (x2 : Int32) (S : St) : Option (St) :=
  if 5 ≤ x2 then (x_lt (upI S 9 3 ((S.1 9 3) + 1)) (fun S1 => some S1)) else (x_ld (S.1 13) 7 x2 (fun v2 => x_gd 30 (((S.1 9 3) * 5) + x2) (x_lt (upI S 10 (Int32.toNatClampNeg (((S.1 9 3) * 5) + x2)) v2) (fun S3 => K18 (x2 + 1) S3))))
def jSuppers_settle_h18 : Nat → Int32 → St → Option (St)
  | 0, _, _ => none
  | n + 1, x2, S => jSuppers_settle_b18 (jSuppers_settle_h18 n) x2 S
def jSuppers_settle (S : St) : Option (St) :=
  if 6 ≤ (S.1 9 3) then (some S) else (if 5 ≤ 7 then (jSuppers_settle_h18 FU 0 S) else (some S))
def jTelling_draft (x1 : Int32) (S : St) : Option (St) :=
  if x1 = 4 then (x_bv (jSuppers_settle S) (fun S5 => some S5)) else (if x1 = 5 then (x_bv (jMenu_list S) (fun S4 => some S4)) else (x_ld (S.1 13) 7 0 (fun v1 => x_lt (upI S 9 5 v1) (fun S2 => x_lt (upI S2 3 3 1) (fun S3 => some S3)))))
def jTelling_mostOf (x0 : Int32) (x1 : Int32) (S : St) : Option (Int32 × St) :=
  if x0 = 6 then (some (5, S)) else (if 5 ≤ x1 then (if x1 = 5 then (some (7, S)) else (some (7, S))) else (some (9, S)))
def jTelling_readItem_b27 (K27 : Int32 → Int32 → Int32 → St → Option (Int32 × St)) (x2 : Int32) (x3 : Int32) (x4 : Int32) (S : St) : Option (Int32 × St) :=
  if x3 ≤ x4 then (if (S.1 1 4) = 3 then (x_bv (jTelling_draft x2 S) (fun S7 => x_bv (jText_step S7) (fun S8 => x_nr 1 (some (1, S8))))) else (x_nr 0 (some (0, S)))) else (if (S.1 1 4) = 2 then (x_bd (jTelling_mostOf x2 x4 S) (fun v10 S9 => if (S.1 1 5) ≤ v10 then (x_gd 7 x4 (x_lt (upI S9 13 (Int32.toNatClampNeg x4) (S9.1 1 5)) (fun S11 => x_bv (jText_step S11) (fun S12 => K27 x2 x3 (x4 + 1) S12)))) else (x_nr 0 (some (0, S9))))) else (x_nr 0 (some (0, S))))
def jTelling_readItem_h27 : Nat → Int32 → Int32 → Int32 → St → Option (Int32 × St)
  | 0, _, _, _, _ => none
  | n + 1, x2, x3, x4, S => jTelling_readItem_b27 (jTelling_readItem_h27 n) x2 x3 x4 S
def jTelling_readItem (S : St) : Option (Int32 × St) :=
  x_lt (S.1 1 4) (fun v1 => x_bd (jTelling_mayBegin v1 S) (fun v3 S2 => if v3 = 0 then (x_nr 0 (some (0, S2))) else (x_bv (jText_step S2) (fun S4 => x_bd (jTelling_numbersOf v1 S4) (fun v6 S5 => jTelling_readItem_h27 FU v1 v6 0 S5)))))
def jTelling_readAll_b43 (K43 : Int32 → St → Option (Int32 × St)) (x2 : Int32) (S : St) : Option (Int32 × St) :=
  if 300 < x2 then (some ((-1), S)) else (if (S.1 1 4) = 0 then (some (x2, S)) else (x_bd (jTelling_readItem S) (fun v8 S7 => if v8 = 0 then (some ((-1), S7)) else (K43 (x2 + 1) S7))))
def jTelling_readAll_h43 : Nat → Int32 → St → Option (Int32 × St)
  | 0, _, _ => none
  | n + 1, x2, S => jTelling_readAll_b43 (jTelling_readAll_h43 n) x2 S
def jTelling_readAll (S : St) : Option (Int32 × St) :=
  x_lt (upI S 4 4 0) (fun S1 => x_lt (upI S1 9 3 0) (fun S2 => x_lt (upI S2 9 4 0) (fun S3 => x_lt (upI S3 9 5 0) (fun S4 => x_lt (upI S4 3 3 0) (fun S5 => x_bv (jText_rewind S5) (fun S6 => jTelling_readAll_h43 FU 0 S6))))))
def jMenu_become_b36 (K36 : Int32 → St → Option (St)) (x2 : Int32) (S : St) : Option (St) :=
  if 8 ≤ x2 then (some S) else (x_ld (S.1 6) 8 x2 (fun v2 => x_gd 8 x2 (x_lt (upI S 16 (Int32.toNatClampNeg x2) v2) (fun S3 => x_ld (S3.1 7) 8 x2 (fun v4 => x_gd 8 x2 (x_lt (upI S3 17 (Int32.toNatClampNeg x2) v4) (fun S5 => x_ld (S5.1 8) 8 x2 (fun v6 => x_gd 8 x2 (x_lt (upI S5 18 (Int32.toNatClampNeg x2) v6) (fun S7 => K36 (x2 + 1) S7))))))))))
def jMenu_become_h36 : Nat → Int32 → St → Option (St)
  | 0, _, _ => none
  | n + 1, x2, S => jMenu_become_b36 (jMenu_become_h36 n) x2 S
def jMenu_become_b10 (K10 : Int32 → St → Option (St)) (x2 : Int32) (S : St) : Option (St) :=
  if 40 ≤ x2 then (jMenu_become_h36 FU 0 S) else (x_ld (S.1 5) 40 x2 (fun v8 => x_gd 40 x2 (x_lt (upI S 15 (Int32.toNatClampNeg x2) v8) (fun S9 => K10 (x2 + 1) S9))))
def jMenu_become_h10 : Nat → Int32 → St → Option (St)
  | 0, _, _ => none
  | n + 1, x2, S => jMenu_become_b10 (jMenu_become_h10 n) x2 S
def jMenu_become (S : St) : Option (St) :=
  x_lt (upI S 14 4 (S.1 4 4)) (fun S1 => jMenu_become_h10 FU 0 S1)
def jSuppers_become_19_9_b60 (K60 : Int32 → St → Option (St)) (x2 : Int32) (S : St) : Option (St) :=
  if 20 ≤ x2 then (some S) else (x_ld (S.1 11) 20 x2 (fun v5 => x_gd 20 x2 (x_lt (upI S 21 (Int32.toNatClampNeg x2) v5) (fun S6 => x_ld (S6.1 12) 20 x2 (fun v7 => x_gd 20 x2 (x_lt (upI S6 22 (Int32.toNatClampNeg x2) v7) (fun S8 => K60 (x2 + 1) S8)))))))
def jSuppers_become_19_9_h60 : Nat → Int32 → St → Option (St)
  | 0, _, _ => none
  | n + 1, x2, S => jSuppers_become_19_9_b60 (jSuppers_become_19_9_h60 n) x2 S
def jSuppers_become_19_9_b34 (K34 : Int32 → St → Option (St)) (x2 : Int32) (S : St) : Option (St) :=
  if 30 ≤ x2 then (jSuppers_become_19_9_h60 FU 0 S) else (x_ld (S.1 10) 30 x2 (fun v9 => x_gd 30 x2 (x_lt (upI S 20 (Int32.toNatClampNeg x2) v9) (fun S10 => K34 (x2 + 1) S10))))
def jSuppers_become_19_9_h34 : Nat → Int32 → St → Option (St)
  | 0, _, _ => none
  | n + 1, x2, S => jSuppers_become_19_9_b34 (jSuppers_become_19_9_h34 n) x2 S
def jSuppers_become_19_9 (S : St) : Option (St) :=
  x_lt (upI S 19 3 (S.1 9 3)) (fun S1 => x_lt (upI S1 19 4 (S1.1 9 4)) (fun S2 => x_lt (upI S2 19 5 (S2.1 9 5)) (fun S3 => x_lt (upI S3 19 6 (S3.1 9 6)) (fun S4 => jSuppers_become_19_9_h34 FU 0 S4))))
def jSmoke_valley (S : St) : Option (Int32 × St) :=
  x_bd (jTelling_readAll S) (fun v2 S1 => if 0 ≤ v2 then (x_bv (jMenu_become S1) (fun S3 => x_lt (upI S3 9 6 (S3.1 19 6)) (fun S4 => x_bv (jSuppers_become_19_9 S4) (fun S5 => x_lt (upI S5 23 7 0) (fun S6 => x_lt (upI S6 27 7 0) (fun S7 => x_lt (upI S7 1 1 0) (fun S8 => some (v2, S8)))))))) else (some ((-10) - (S1.1 1 3), S1)))
def jSuppers_hasHouse (x1 : Int32) (S : St) : Option (Int32 × St) :=
  if x1 < 0 then (x_nr 0 (some (0, S))) else (if (S.1 19 3) ≤ x1 then (x_nr 0 (some (0, S))) else (x_nr 1 (some (1, S))))
def jSuppers_stock (x1 : Int32) (x2 : Int32) (S : St) : Option (Int32 × St) :=
  x_ld (S.1 20) 30 ((x1 * 5) + x2) (fun v1 => some (v1, S))
def jSuppers_allStock_b4 (K4 : Int32 → Int32 → Int32 → St → Option (Int32 × St)) (x1 : Int32) (x2 : Int32) (x3 : Int32) (S : St) : Option (Int32 × St) :=
  if 5 ≤ x3 then (some (x2, S)) else (x_bd (jSuppers_stock x1 x3 S) (fun v2 S1 => x_lt (x2 + v2) (fun v3 => K4 x1 v3 (x3 + 1) S1)))
def jSuppers_allStock_h4 : Nat → Int32 → Int32 → Int32 → St → Option (Int32 × St)
  | 0, _, _, _, _ => none
  | n + 1, x1, x2, x3, S => jSuppers_allStock_b4 (jSuppers_allStock_h4 n) x1 x2 x3 S
def jSuppers_allStock (x1 : Int32) (S : St) : Option (Int32 × St) :=
  jSuppers_allStock_h4 FU x1 0 0 S
def jSmoke_house (x1 : Int32) (x2 : Int32) (S : St) : Option (Int32 × St) :=
  x_bd (jSuppers_hasHouse x1 S) (fun v2 S1 => if v2 = 0 then (some ((-1), S1)) else (if x2 < 0 then (some ((-1), S1)) else (if x2 ≤ 5 then (if 5 ≤ x2 then (x_bd (jSuppers_allStock x1 S1) (fun v4 S3 => some (v4, S3))) else (x_bd (jSuppers_stock x1 x2 S1) (fun v6 S5 => some (v6, S5)))) else (some ((-1), S1)))))
def jMenu_lists (x1 : Int32) (S : St) : Option (Int32 × St) :=
  if x1 < 0 then (x_nr 0 (some (0, S))) else (if (S.1 14 4) ≤ x1 then (x_nr 0 (some (0, S))) else (x_nr 1 (some (1, S))))
def jMenu_need (x1 : Int32) (x2 : Int32) (S : St) : Option (Int32 × St) :=
  x_ld (S.1 15) 40 ((x1 * 5) + x2) (fun v1 => some (v1, S))
def jSmoke_dish (x1 : Int32) (x2 : Int32) (S : St) : Option (Int32 × St) :=
  x_bd (jMenu_lists x1 S) (fun v2 S1 => if v2 = 0 then (some ((-1), S1)) else (if 0 ≤ x2 then (if 5 ≤ x2 then (if x2 = 5 then (x_ld (S1.1 17) 8 x1 (fun v3 => some (v3, S1))) else (if x2 = 6 then (x_ld (S1.1 18) 8 x1 (fun v4 => some (v4, S1))) else (if x2 = 7 then (x_ld (S1.1 16) 8 x1 (fun v5 => some (v5, S1))) else (some ((-1), S1))))) else (x_bd (jMenu_need x1 x2 S1) (fun v7 S6 => some (v7, S6)))) else (some ((-1), S1))))
def jSuppers_fill_39_b2 (K2 : Int32 → Int32 → St → Option (St)) (x1 : Int32) (x3 : Int32) (S : St) : Option (St) :=
  if 5 ≤ x3 then (some S) else (x_bd (jSuppers_stock x1 x3 S) (fun v2 S1 => x_gd 5 x3 (x_lt (upI S1 39 (Int32.toNatClampNeg x3) v2) (fun S3 => K2 x1 (x3 + 1) S3))))
def jSuppers_fill_39_h2 : Nat → Int32 → Int32 → St → Option (St)
  | 0, _, _, _ => none
  | n + 1, x1, x3, S => jSuppers_fill_39_b2 (jSuppers_fill_39_h2 n) x1 x3 S
def jSuppers_fill_39 (x1 : Int32) (S : St) : Option (St) :=
  jSuppers_fill_39_h2 FU x1 0 S
def jMenu_fits_39_b2 (K2 : Int32 → Int32 → St → Option (Int32 × St)) (x1 : Int32) (x3 : Int32) (S : St) : Option (Int32 × St) :=
  if 5 ≤ x3 then (x_nr 1 (some (1, S))) else (x_bd (jMenu_need x1 x3 S) (fun v2 S1 => x_ld (S1.1 39) 5 x3 (fun v3 => if v2 ≤ v3 then (K2 x1 (x3 + 1) S1) else (x_nr 0 (some (0, S1))))))
def jMenu_fits_39_h2 : Nat → Int32 → Int32 → St → Option (Int32 × St)
  | 0, _, _, _ => none
  | n + 1, x1, x3, S => jMenu_fits_39_b2 (jMenu_fits_39_h2 n) x1 x3 S
def jMenu_fits_39 (x1 : Int32) (S : St) : Option (Int32 × St) :=
  jMenu_fits_39_h2 FU x1 0 S
def jSmoke_couldCook (x1 : Int32) (x2 : Int32) (S : St) : Option (Int32 × St) :=
  x_bv (jSuppers_fill_39 x1 S) (fun S1 => x_bd (jMenu_fits_39 x2 S1) (fun v3 S2 => x_nr v3 (some (v3, S2))))
def jSuppers_rise (x1 : Int32) (x2 : Int32) (S : St) : Option (St) :=
  if (S.1 19 4) < 20 then (x_gd 20 (S.1 19 4) (x_lt (upI S 21 (Int32.toNatClampNeg (S.1 19 4)) x1) (fun S1 => x_gd 20 (S1.1 19 4) (x_lt (upI S1 22 (Int32.toNatClampNeg (S1.1 19 4)) x2) (fun S2 => x_lt (upI S2 19 4 ((S2.1 19 4) + 1)) (fun S3 => some S3)))))) else (some S)
def jSuppers_change (x1 : Int32) (x2 : Int32) (x3 : Int32) (S : St) : Option (St) :=
  x_ld (S.1 20) 30 ((x1 * 5) + x2) (fun v1 => x_gd 30 ((x1 * 5) + x2) (x_lt (upI S 20 (Int32.toNatClampNeg ((x1 * 5) + x2)) (v1 + x3)) (fun S2 => some S2)))
def jSmoke_cook_b53 (K53 : Int32 → Int32 → Int32 → St → Option (Int32 × St)) (x1 : Int32) (x2 : Int32) (x3 : Int32) (S : St) : Option (Int32 × St) :=
  if 5 ≤ x3 then (x_bv (jSuppers_rise x1 x2 S) (fun S7 => x_ld (S7.1 17) 8 x2 (fun v8 => some (v8, S7)))) else (x_bd (jMenu_need x2 x3 S) (fun v10 S9 => x_bv (jSuppers_change x1 x3 (-v10) S9) (fun S11 => K53 x1 x2 (x3 + 1) S11)))
def jSmoke_cook_h53 : Nat → Int32 → Int32 → Int32 → St → Option (Int32 × St)
  | 0, _, _, _, _ => none
  | n + 1, x1, x2, x3, S => jSmoke_cook_b53 (jSmoke_cook_h53 n) x1 x2 x3 S
def jSmoke_cook (x1 : Int32) (x2 : Int32) (S : St) : Option (Int32 × St) :=
  x_bd (jSuppers_hasHouse x1 S) (fun v2 S1 => if v2 = 0 then (some ((-1), S1)) else (x_bd (jMenu_lists x2 S1) (fun v4 S3 => if v4 = 0 then (some ((-1), S3)) else (x_bd (jSmoke_couldCook x1 x2 S3) (fun v6 S5 => if v6 = 0 then (some ((-2), S5)) else (if (S5.1 19 4) < 20 then (jSmoke_cook_h53 FU x1 x2 0 S5) else (some ((-3), S5))))))))
def jSmoke_undo_b60 (K60 : Int32 → Int32 → Int32 → St → Option (Int32 × St)) (x1 : Int32) (x2 : Int32) (x3 : Int32) (S : St) : Option (Int32 × St) :=
  if 5 ≤ x3 then (some (S.1 19 4, S)) else (x_bd (jSuppers_stock x1 x3 S) (fun v5 S4 => x_lt (9 - v5) (fun v6 => x_bd (jMenu_need x2 x3 S4) (fun v8 S7 => x_bv (jSuppers_change x1 x3 (if v8 < v6 then v8 else v6) S7) (fun S9 => K60 x1 x2 (x3 + 1) S9)))))
def jSmoke_undo_h60 : Nat → Int32 → Int32 → Int32 → St → Option (Int32 × St)
  | 0, _, _, _, _ => none
  | n + 1, x1, x2, x3, S => jSmoke_undo_b60 (jSmoke_undo_h60 n) x1 x2 x3 S
def jSmoke_undo (S : St) : Option (Int32 × St) :=
  if 0 < (S.1 19 4) then (x_lt (upI S 19 4 ((S.1 19 4) - 1)) (fun S1 => x_ld (S1.1 21) 20 (S1.1 19 4) (fun v2 => x_ld (S1.1 22) 20 (S1.1 19 4) (fun v3 => jSmoke_undo_h60 FU v2 v3 0 S1)))) else (some ((-2), S))
def jSmoke_gives (x1 : Int32) (x2 : Int32) (x3 : Int32) (x4 : Int32) (S : St) : Option (Int32 × St) :=
  x_bd (jSuppers_hasHouse x1 S) (fun v2 S1 => if v2 = 0 then (some ((-1), S1)) else (x_bd (jSuppers_hasHouse x2 S1) (fun v4 S3 => if v4 = 0 then (some ((-1), S3)) else (if x1 = x2 then (some ((-1), S3)) else (if x3 < 0 then (some ((-1), S3)) else (if 5 ≤ x3 then (some ((-1), S3)) else (if x4 < 1 then (some ((-1), S3)) else (if x4 ≤ 9 then (x_bd (jSuppers_stock x1 x3 S3) (fun v6 S5 => if x4 ≤ v6 then (x_bd (jSuppers_stock x2 x3 S5) (fun v8 S7 => if (v8 + x4) ≤ 9 then (x_bv (jSuppers_change x1 x3 (-x4) S7) (fun S9 => x_bv (jSuppers_change x2 x3 x4 S9) (fun S10 => x_bd (jSuppers_stock x2 x3 S10) (fun v12 S11 => some (v12, S11))))) else (some ((-3), S7)))) else (some ((-2), S5)))) else (some ((-1), S3))))))))))
def jSmoke_burns_b24 (K24 : Int32 → Int32 → Int32 → St → Option (Int32 × St)) (x1 : Int32) (x2 : Int32) (x3 : Int32) (S : St) : Option (Int32 × St) :=
  if 5 ≤ x3 then (some (x2, S)) else (x_bd (jSuppers_stock x1 x3 S) (fun v6 S5 => x_bv (jSuppers_change x1 x3 (-v6) S5) (fun S7 => K24 x1 x2 (x3 + 1) S7)))
def jSmoke_burns_h24 : Nat → Int32 → Int32 → Int32 → St → Option (Int32 × St)
  | 0, _, _, _, _ => none
  | n + 1, x1, x2, x3, S => jSmoke_burns_b24 (jSmoke_burns_h24 n) x1 x2 x3 S
def jSmoke_burns (x1 : Int32) (S : St) : Option (Int32 × St) :=
  x_bd (jSuppers_hasHouse x1 S) (fun v2 S1 => if v2 = 0 then (some ((-1), S1)) else (x_bd (jSuppers_allStock x1 S1) (fun v4 S3 => jSmoke_burns_h24 FU x1 v4 0 S3)))
def jSmoke_plume (x1 : Int32) (x2 : Int32) (S : St) : Option (Int32 × St) :=
  if x1 < 0 then (some ((-1), S)) else (if (S.1 19 4) ≤ x1 then (some ((-1), S)) else (if x2 < 0 then (some ((-1), S)) else (if x2 ≤ 1 then (if x2 = 0 then (x_ld (S.1 21) 20 x1 (fun v3 => some (v3, S))) else (x_ld (S.1 22) 20 x1 (fun v1 => x_ld (S.1 17) 8 v1 (fun v2 => some (v2, S))))) else (some ((-1), S)))))
def jSmoke_fog (x1 : Int32) (S : St) : Option (Int32 × St) :=
  if x1 < 0 then (some ((-1), S)) else (if x1 ≤ 5 then (x_lt (S.1 19 5) (fun v1 => x_lt (upI S 19 5 x1) (fun S2 => some (v1, S2)))) else (some ((-1), S)))
def jSmoke_isWord (x0 : Int32) (S : St) : Option (Int32 × St) :=
  if x0 < 0 then (x_nr 0 (some (0, S))) else (if 8 ≤ x0 then (x_nr 0 (some (0, S))) else (x_nr 1 (some (1, S))))
def jSmoke_isRow (x0 : Int32) (x1 : Int32) (x2 : Int32) (S : St) : Option (Int32 × St) :=
  x_bd (jSmoke_isWord x0 S) (fun v2 S1 => if v2 = 0 then (x_nr 0 (some (0, S1))) else (if x1 = (-1) then (if x2 = (-1) then (x_nr 1 (some (1, S1))) else (x_nr 0 (some (0, S1)))) else (x_bd (jSmoke_isWord x1 S1) (fun v4 S3 => if v4 = 0 then (x_nr 0 (some (0, S3))) else (if x2 = (-1) then (x_nr 1 (some (1, S3))) else (x_bd (jSmoke_isWord x2 S3) (fun v6 S5 => if v6 = 0 then (x_nr 0 (some (0, S5))) else (x_nr 1 (some (1, S5))))))))))
def jSpeech_hear_b41 (s0 : Int32) (S : St) : Option (St) :=
  x_lt (upI S 31 4 s0) (fun S4 => some S4)
def jSpeech_hear (x1 : Int32) (x2 : Int32) (x3 : Int32) (S : St) : Option (St) :=
  x_gd 3 0 (x_lt (upI S 32 (Int32.toNatClampNeg 0) x1) (fun S1 => x_gd 3 1 (x_lt (upI S1 32 (Int32.toNatClampNeg 1) x2) (fun S2 => x_gd 3 2 (x_lt (upI S2 32 (Int32.toNatClampNeg 2) x3) (fun S3 => if x2 = (-1) then (jSpeech_hear_b41 1 S3) else (if x3 = (-1) then (jSpeech_hear_b41 2 S3) else (jSpeech_hear_b41 3 S3))))))))
def jSuppers_fill_35_b2 (K2 : Int32 → Int32 → St → Option (St)) (x1 : Int32) (x3 : Int32) (S : St) : Option (St) :=
  if 5 ≤ x3 then (some S) else (x_bd (jSuppers_stock x1 x3 S) (fun v2 S1 => x_gd 5 x3 (x_lt (upI S1 35 (Int32.toNatClampNeg x3) v2) (fun S3 => K2 x1 (x3 + 1) S3))))
def jSuppers_fill_35_h2 : Nat → Int32 → Int32 → St → Option (St)
  | 0, _, _, _ => none
  | n + 1, x1, x3, S => jSuppers_fill_35_b2 (jSuppers_fill_35_h2 n) x1 x3 S
def jSuppers_fill_35 (x1 : Int32) (S : St) : Option (St) :=
  jSuppers_fill_35_h2 FU x1 0 S
def jSpeech_compare_b25 (K25 : Int32 → St → Option (St)) (x2 : Int32) (S : St) : Option (St) :=
  if 3 ≤ x2 then (some S) else (x_ld (S.1 33) 3 x2 (fun v2 => x_gd 3 x2 (x_lt (upI S 34 (Int32.toNatClampNeg x2) v2) (fun S3 => K25 (x2 + 1) S3))))
def jSpeech_compare_h25 : Nat → Int32 → St → Option (St)
  | 0, _, _ => none
  | n + 1, x2, S => jSpeech_compare_b25 (jSpeech_compare_h25 n) x2 S
def jSpeech_compare_b18 (x1 : Int32) (S : St) : Option (St) :=
  x_lt (upI S 31 5 x1) (fun S1 => jSpeech_compare_h25 FU 0 S1)
def jSpeech_compare (x1 : Int32) (S : St) : Option (St) :=
  if (S.1 31 5) = (-9) then (jSpeech_compare_b18 x1 S) else (if x1 < (S.1 31 5) then (jSpeech_compare_b18 x1 S) else (some S))
def jMenu_fits_35_b2 (K2 : Int32 → Int32 → St → Option (Int32 × St)) (x1 : Int32) (x3 : Int32) (S : St) : Option (Int32 × St) :=
  if 5 ≤ x3 then (x_nr 1 (some (1, S))) else (x_bd (jMenu_need x1 x3 S) (fun v2 S1 => x_ld (S1.1 35) 5 x3 (fun v3 => if v2 ≤ v3 then (K2 x1 (x3 + 1) S1) else (x_nr 0 (some (0, S1))))))
def jMenu_fits_35_h2 : Nat → Int32 → Int32 → St → Option (Int32 × St)
  | 0, _, _, _ => none
  | n + 1, x1, x3, S => jMenu_fits_35_b2 (jMenu_fits_35_h2 n) x1 x3 S
def jMenu_fits_35 (x1 : Int32) (S : St) : Option (Int32 × St) :=
  jMenu_fits_35_h2 FU x1 0 S
def jMenu_take_35_b2 (K2 : Int32 → Int32 → St → Option (St)) (x1 : Int32) (x3 : Int32) (S : St) : Option (St) :=
  if 5 ≤ x3 then (some S) else (x_ld (S.1 35) 5 x3 (fun v1 => x_bd (jMenu_need x1 x3 S) (fun v3 S2 => x_gd 5 x3 (x_lt (upI S2 35 (Int32.toNatClampNeg x3) (v1 - v3)) (fun S4 => K2 x1 (x3 + 1) S4)))))
def jMenu_take_35_h2 : Nat → Int32 → Int32 → St → Option (St)
  | 0, _, _, _ => none
  | n + 1, x1, x3, S => jMenu_take_35_b2 (jMenu_take_35_h2 n) x1 x3 S
def jMenu_take_35 (x1 : Int32) (S : St) : Option (St) :=
  jMenu_take_35_h2 FU x1 0 S
def jSpeech_choose_0 (x2 : Int32) (x3 : Int32) (x4 : Int32) (S : St) : Option (St) := none
def jMenu_putBack_b2 (K2 : Int32 → Int32 → St → Option (St)) (x1 : Int32) (x3 : Int32) (S : St) : Option (St) :=
  if 5 ≤ x3 then (some S) else (x_ld (S.1 35) 5 x3 (fun v1 => x_bd (jMenu_need x1 x3 S) (fun v3 S2 => x_gd 5 x3 (x_lt (upI S2 35 (Int32.toNatClampNeg x3) (v1 + v3)) (fun S4 => K2 x1 (x3 + 1) S4)))))
def jMenu_putBack_h2 : Nat → Int32 → Int32 → St → Option (St)
  | 0, _, _, _ => none
  | n + 1, x1, x3, S => jMenu_putBack_b2 (jMenu_putBack_h2 n) x1 x3 S
def jMenu_putBack (x1 : Int32) (S : St) : Option (St) :=
  jMenu_putBack_h2 FU x1 0 S
def jSpeech_choose_1_b13 (x4 : Int32) (S : St) : Option (St) :=
  x_bv (jSpeech_compare x4 S) (fun S1 => some S1)
def jSpeech_choose_1_b43 (K43 : Int32 → Int32 → Int32 → Int32 → St → Option (St)) (x2 : Int32) (x3 : Int32) (x4 : Int32) (x5 : Int32) (S : St) : Option (St) :=
  if (S.1 14 4) ≤ x5 then (some S) else (x_ld (S.1 18) 8 x5 (fun v2 => x_ld (S.1 32) 3 x2 (fun v3 => if v2 = v3 then (x_bd (jMenu_fits_35 x5 S) (fun v5 S4 => if v5 = 0 then (K43 x2 x3 x4 (x5 + 1) S4) else (x_gd 3 x2 (x_lt (upI S4 33 (Int32.toNatClampNeg x2) x5) (fun S6 => x_bv (jMenu_take_35 x5 S6) (fun S7 => x_ld (S7.1 16) 8 x5 (fun v8 => x_bv (jSpeech_choose_0 (x2 + 1) x3 (x4 + v8) S7) (fun S9 => x_bv (jMenu_putBack x5 S9) (fun S10 => K43 x2 x3 x4 (x5 + 1) S10))))))))) else (K43 x2 x3 x4 (x5 + 1) S))))
def jSpeech_choose_1_h43 : Nat → Int32 → Int32 → Int32 → Int32 → St → Option (St)
  | 0, _, _, _, _, _ => none
  | n + 1, x2, x3, x4, x5, S => jSpeech_choose_1_b43 (jSpeech_choose_1_h43 n) x2 x3 x4 x5 S
def jSpeech_choose_1 (x2 : Int32) (x3 : Int32) (x4 : Int32) (S : St) : Option (St) :=
  if (S.1 31 4) ≤ x2 then (jSpeech_choose_1_b13 x4 S) else (if x2 < 3 then (if ((x3 >>> (x2 &&& 31)) &&& 1) = 0 then (x_bv (jSpeech_choose_0 (x2 + 1) x3 x4 S) (fun S11 => some S11)) else (jSpeech_choose_1_h43 FU x2 x3 x4 0 S)) else (jSpeech_choose_1_b13 x4 S))
def jSpeech_choose_2_b13 (x4 : Int32) (S : St) : Option (St) :=
  x_bv (jSpeech_compare x4 S) (fun S1 => some S1)
def jSpeech_choose_2_b43 (K43 : Int32 → Int32 → Int32 → Int32 → St → Option (St)) (x2 : Int32) (x3 : Int32) (x4 : Int32) (x5 : Int32) (S : St) : Option (St) :=
  if (S.1 14 4) ≤ x5 then (some S) else (x_ld (S.1 18) 8 x5 (fun v2 => x_ld (S.1 32) 3 x2 (fun v3 => if v2 = v3 then (x_bd (jMenu_fits_35 x5 S) (fun v5 S4 => if v5 = 0 then (K43 x2 x3 x4 (x5 + 1) S4) else (x_gd 3 x2 (x_lt (upI S4 33 (Int32.toNatClampNeg x2) x5) (fun S6 => x_bv (jMenu_take_35 x5 S6) (fun S7 => x_ld (S7.1 16) 8 x5 (fun v8 => x_bv (jSpeech_choose_1 (x2 + 1) x3 (x4 + v8) S7) (fun S9 => x_bv (jMenu_putBack x5 S9) (fun S10 => K43 x2 x3 x4 (x5 + 1) S10))))))))) else (K43 x2 x3 x4 (x5 + 1) S))))
def jSpeech_choose_2_h43 : Nat → Int32 → Int32 → Int32 → Int32 → St → Option (St)
  | 0, _, _, _, _, _ => none
  | n + 1, x2, x3, x4, x5, S => jSpeech_choose_2_b43 (jSpeech_choose_2_h43 n) x2 x3 x4 x5 S
def jSpeech_choose_2 (x2 : Int32) (x3 : Int32) (x4 : Int32) (S : St) : Option (St) :=
  if (S.1 31 4) ≤ x2 then (jSpeech_choose_2_b13 x4 S) else (if x2 < 3 then (if ((x3 >>> (x2 &&& 31)) &&& 1) = 0 then (x_bv (jSpeech_choose_1 (x2 + 1) x3 x4 S) (fun S11 => some S11)) else (jSpeech_choose_2_h43 FU x2 x3 x4 0 S)) else (jSpeech_choose_2_b13 x4 S))
def jSpeech_choose_3_b13 (x4 : Int32) (S : St) : Option (St) :=
  x_bv (jSpeech_compare x4 S) (fun S1 => some S1)
def jSpeech_choose_3_b43 (K43 : Int32 → Int32 → Int32 → Int32 → St → Option (St)) (x2 : Int32) (x3 : Int32) (x4 : Int32) (x5 : Int32) (S : St) : Option (St) :=
  if (S.1 14 4) ≤ x5 then (some S) else (x_ld (S.1 18) 8 x5 (fun v2 => x_ld (S.1 32) 3 x2 (fun v3 => if v2 = v3 then (x_bd (jMenu_fits_35 x5 S) (fun v5 S4 => if v5 = 0 then (K43 x2 x3 x4 (x5 + 1) S4) else (x_gd 3 x2 (x_lt (upI S4 33 (Int32.toNatClampNeg x2) x5) (fun S6 => x_bv (jMenu_take_35 x5 S6) (fun S7 => x_ld (S7.1 16) 8 x5 (fun v8 => x_bv (jSpeech_choose_2 (x2 + 1) x3 (x4 + v8) S7) (fun S9 => x_bv (jMenu_putBack x5 S9) (fun S10 => K43 x2 x3 x4 (x5 + 1) S10))))))))) else (K43 x2 x3 x4 (x5 + 1) S))))
def jSpeech_choose_3_h43 : Nat → Int32 → Int32 → Int32 → Int32 → St → Option (St)
  | 0, _, _, _, _, _ => none
  | n + 1, x2, x3, x4, x5, S => jSpeech_choose_3_b43 (jSpeech_choose_3_h43 n) x2 x3 x4 x5 S
def jSpeech_choose_3 (x2 : Int32) (x3 : Int32) (x4 : Int32) (S : St) : Option (St) :=
  if (S.1 31 4) ≤ x2 then (jSpeech_choose_3_b13 x4 S) else (if x2 < 3 then (if ((x3 >>> (x2 &&& 31)) &&& 1) = 0 then (x_bv (jSpeech_choose_2 (x2 + 1) x3 x4 S) (fun S11 => some S11)) else (jSpeech_choose_3_h43 FU x2 x3 x4 0 S)) else (jSpeech_choose_3_b13 x4 S))
def jSpeech_choose_4_b13 (x4 : Int32) (S : St) : Option (St) :=
  x_bv (jSpeech_compare x4 S) (fun S1 => some S1)
def jSpeech_choose_4_b43 (K43 : Int32 → Int32 → Int32 → Int32 → St → Option (St)) (x2 : Int32) (x3 : Int32) (x4 : Int32) (x5 : Int32) (S : St) : Option (St) :=
  if (S.1 14 4) ≤ x5 then (some S) else (x_ld (S.1 18) 8 x5 (fun v2 => x_ld (S.1 32) 3 x2 (fun v3 => if v2 = v3 then (x_bd (jMenu_fits_35 x5 S) (fun v5 S4 => if v5 = 0 then (K43 x2 x3 x4 (x5 + 1) S4) else (x_gd 3 x2 (x_lt (upI S4 33 (Int32.toNatClampNeg x2) x5) (fun S6 => x_bv (jMenu_take_35 x5 S6) (fun S7 => x_ld (S7.1 16) 8 x5 (fun v8 => x_bv (jSpeech_choose_3 (x2 + 1) x3 (x4 + v8) S7) (fun S9 => x_bv (jMenu_putBack x5 S9) (fun S10 => K43 x2 x3 x4 (x5 + 1) S10))))))))) else (K43 x2 x3 x4 (x5 + 1) S))))
def jSpeech_choose_4_h43 : Nat → Int32 → Int32 → Int32 → Int32 → St → Option (St)
  | 0, _, _, _, _, _ => none
  | n + 1, x2, x3, x4, x5, S => jSpeech_choose_4_b43 (jSpeech_choose_4_h43 n) x2 x3 x4 x5 S
def jSpeech_choose_4 (x2 : Int32) (x3 : Int32) (x4 : Int32) (S : St) : Option (St) :=
  if (S.1 31 4) ≤ x2 then (jSpeech_choose_4_b13 x4 S) else (if x2 < 3 then (if ((x3 >>> (x2 &&& 31)) &&& 1) = 0 then (x_bv (jSpeech_choose_3 (x2 + 1) x3 x4 S) (fun S11 => some S11)) else (jSpeech_choose_4_h43 FU x2 x3 x4 0 S)) else (jSpeech_choose_4_b13 x4 S))
def jSpeech_choose_5_b13 (x4 : Int32) (S : St) : Option (St) :=
  x_bv (jSpeech_compare x4 S) (fun S1 => some S1)
def jSpeech_choose_5_b43 (K43 : Int32 → Int32 → Int32 → Int32 → St → Option (St)) (x2 : Int32) (x3 : Int32) (x4 : Int32) (x5 : Int32) (S : St) : Option (St) :=
  if (S.1 14 4) ≤ x5 then (some S) else (x_ld (S.1 18) 8 x5 (fun v2 => x_ld (S.1 32) 3 x2 (fun v3 => if v2 = v3 then (x_bd (jMenu_fits_35 x5 S) (fun v5 S4 => if v5 = 0 then (K43 x2 x3 x4 (x5 + 1) S4) else (x_gd 3 x2 (x_lt (upI S4 33 (Int32.toNatClampNeg x2) x5) (fun S6 => x_bv (jMenu_take_35 x5 S6) (fun S7 => x_ld (S7.1 16) 8 x5 (fun v8 => x_bv (jSpeech_choose_4 (x2 + 1) x3 (x4 + v8) S7) (fun S9 => x_bv (jMenu_putBack x5 S9) (fun S10 => K43 x2 x3 x4 (x5 + 1) S10))))))))) else (K43 x2 x3 x4 (x5 + 1) S))))
def jSpeech_choose_5_h43 : Nat → Int32 → Int32 → Int32 → Int32 → St → Option (St)
  | 0, _, _, _, _, _ => none
  | n + 1, x2, x3, x4, x5, S => jSpeech_choose_5_b43 (jSpeech_choose_5_h43 n) x2 x3 x4 x5 S
def jSpeech_choose_5 (x2 : Int32) (x3 : Int32) (x4 : Int32) (S : St) : Option (St) :=
  if (S.1 31 4) ≤ x2 then (jSpeech_choose_5_b13 x4 S) else (if x2 < 3 then (if ((x3 >>> (x2 &&& 31)) &&& 1) = 0 then (x_bv (jSpeech_choose_4 (x2 + 1) x3 x4 S) (fun S11 => some S11)) else (jSpeech_choose_5_h43 FU x2 x3 x4 0 S)) else (jSpeech_choose_5_b13 x4 S))
def jSpeech_fewestUnits (x2 : Int32) (S : St) : Option (Int32 × St) :=
  x_lt (upI S 31 5 (-9)) (fun S1 => x_bv (jSpeech_choose_5 0 x2 0 S1) (fun S2 => some (S2.1 31 5, S2)))
def jSmoke_says (x1 : Int32) (x2 : Int32) (x3 : Int32) (x4 : Int32) (x5 : Int32) (S : St) : Option (Int32 × St) :=
  x_bd (jSuppers_hasHouse x1 S) (fun v2 S1 => if v2 = 0 then (some ((-1), S1)) else (x_bd (jSmoke_isRow x2 x3 x4 S1) (fun v4 S3 => if v4 = 0 then (some ((-1), S3)) else (if x5 < (-1) then (some ((-1), S3)) else (if x5 < 3 then (x_bv (jSpeech_hear x2 x3 x4 S3) (fun S5 => x_bv (jSuppers_fill_35 x1 S5) (fun S6 => x_bd (jSpeech_fewestUnits 7 S6) (fun v8 S7 => if v8 = (-9) then (some ((-9), S7)) else (if 0 ≤ x5 then (if (S7.1 31 4) ≤ x5 then (some ((-5), S7)) else (x_ld (S7.1 34) 3 x5 (fun v9 => some (v9, S7)))) else (some (v8, S7))))))) else (some ((-1), S3)))))))
def jInt_bitCount (x0 : Int32) (S : St) : Option (Int32 × St) :=
  x_lt (x0 - ((x_ush x0 1) &&& 1431655765)) (fun v1 => x_lt ((v1 &&& 858993459) + ((x_ush v1 2) &&& 858993459)) (fun v2 => x_lt ((v2 + (x_ush v2 4)) &&& 252645135) (fun v3 => x_lt (v3 + (x_ush v3 8)) (fun v4 => x_lt (v4 + (x_ush v4 16)) (fun v5 => some (v5 &&& 63, S))))))
def jSpeech_mostPlaces_b30 (K4 : Int32 → Int32 → St → Option (Int32 × St)) (x2 : Int32) (x3 : Int32) (s0 : Int32) (S : St) : Option (Int32 × St) :=
  if s0 = 0 then (K4 x2 (x3 + 1) S) else (x_bd (jSpeech_fewestUnits x3 S) (fun v6 S5 => if v6 = (-9) then (K4 x2 (x3 + 1) S5) else (K4 x3 (x3 + 1) S5)))
def jSpeech_mostPlaces_b4 (K4 : Int32 → Int32 → St → Option (Int32 × St)) (x2 : Int32) (x3 : Int32) (S : St) : Option (Int32 × St) :=
  if (1 <<< ((S.1 31 4) &&& 31)) ≤ x3 then (some (x2, S)) else (x_bd (jInt_bitCount x3 S) (fun v2 S1 => x_bd (jInt_bitCount x2 S1) (fun v4 S3 => if v2 ≤ v4 then (jSpeech_mostPlaces_b30 K4 x2 x3 0 S3) else (jSpeech_mostPlaces_b30 K4 x2 x3 1 S3))))
def jSpeech_mostPlaces_h4 : Nat → Int32 → Int32 → St → Option (Int32 × St)
  | 0, _, _, _ => none
  | n + 1, x2, x3, S => jSpeech_mostPlaces_b4 (jSpeech_mostPlaces_h4 n) x2 x3 S
def jSpeech_mostPlaces (S : St) : Option (Int32 × St) :=
  jSpeech_mostPlaces_h4 FU 0 1 S
def jSmoke_nearest (x1 : Int32) (x2 : Int32) (x3 : Int32) (x4 : Int32) (S : St) : Option (Int32 × St) :=
  x_bd (jSuppers_hasHouse x1 S) (fun v2 S1 => if v2 = 0 then (some ((-1), S1)) else (x_bd (jSmoke_isRow x2 x3 x4 S1) (fun v4 S3 => if v4 = 0 then (some ((-1), S3)) else (x_bv (jSpeech_hear x2 x3 x4 S3) (fun S5 => x_bv (jSuppers_fill_35 x1 S5) (fun S6 => x_bd (jSpeech_mostPlaces S6) (fun v8 S7 => some (v8, S7))))))))
def jSmoke_isSmoke (x0 : Int32) (S : St) : Option (Int32 × St) :=
  if x0 < 0 then (x_nr 0 (some (0, S))) else (if 8 ≤ x0 then (x_nr 0 (some (0, S))) else (x_nr 1 (some (1, S))))
def jSuppers_thousandths_b27 (K5 : Int32 → Int32 → Int32 → Int32 → St → Option (Int32 × St)) (x1 : Int32) (x2 : Int32) (x3 : Int32) (x4 : Int32) (s0 : Int32) (S : St) : Option (Int32 × St) :=
  if s0 = 0 then (x_lt (x3 * (10 - (S.1 19 5))) (fun v1 => K5 x1 x2 v1 (x4 + 1) S)) else (x_lt (x3 * (S.1 19 5)) (fun v2 => K5 x1 x2 v2 (x4 + 1) S))
def jSuppers_thousandths_b5 (K5 : Int32 → Int32 → Int32 → Int32 → St → Option (Int32 × St)) (x1 : Int32) (x2 : Int32) (x3 : Int32) (x4 : Int32) (S : St) : Option (Int32 × St) :=
  if 3 ≤ x4 then (some (x3, S)) else (if (((x1 ^^^ x2) >>> (x4 &&& 31)) &&& 1) = 0 then (jSuppers_thousandths_b27 K5 x1 x2 x3 x4 0 S) else (jSuppers_thousandths_b27 K5 x1 x2 x3 x4 1 S))
def jSuppers_thousandths_h5 : Nat → Int32 → Int32 → Int32 → Int32 → St → Option (Int32 × St)
  | 0, _, _, _, _, _ => none
  | n + 1, x1, x2, x3, x4, S => jSuppers_thousandths_b5 (jSuppers_thousandths_h5 n) x1 x2 x3 x4 S
def jSuppers_thousandths (x1 : Int32) (x2 : Int32) (S : St) : Option (Int32 × St) :=
  jSuppers_thousandths_h5 FU x1 x2 1 0 S
def jSmoke_reads (x1 : Int32) (x2 : Int32) (S : St) : Option (Int32 × St) :=
  x_bd (jSmoke_isSmoke x1 S) (fun v2 S1 => if v2 = 0 then (some ((-1), S1)) else (x_bd (jSmoke_isSmoke x2 S1) (fun v4 S3 => if v4 = 0 then (some ((-1), S3)) else (x_bd (jSuppers_thousandths x1 x2 S3) (fun v6 S5 => some (v6, S5))))))
def jMenu_meaning_b2 (K2 : Int32 → Int32 → St → Option (Int32 × St)) (x1 : Int32) (x2 : Int32) (S : St) : Option (Int32 × St) :=
  if (S.1 14 4) ≤ x2 then (some ((-9), S)) else (x_ld (S.1 17) 8 x2 (fun v1 => if v1 = x1 then (x_ld (S.1 18) 8 x2 (fun v2 => some (v2, S))) else (K2 x1 (x2 + 1) S)))
def jMenu_meaning_h2 : Nat → Int32 → Int32 → St → Option (Int32 × St)
  | 0, _, _, _ => none
  | n + 1, x1, x2, S => jMenu_meaning_b2 (jMenu_meaning_h2 n) x1 x2 S
def jMenu_meaning (x1 : Int32) (S : St) : Option (Int32 × St) :=
  jMenu_meaning_h2 FU x1 0 S
def jSmoke_means (x1 : Int32) (S : St) : Option (Int32 × St) :=
  x_bd (jSmoke_isSmoke x1 S) (fun v2 S1 => if v2 = 0 then (some ((-1), S1)) else (x_bd (jMenu_meaning x1 S1) (fun v4 S3 => some (v4, S3))))
def jMenu_leastSaying_b2 (K2 : Int32 → Int32 → St → Option (Int32 × St)) (x1 : Int32) (x2 : Int32) (S : St) : Option (Int32 × St) :=
  if (S.1 14 4) ≤ x2 then (some ((-1), S)) else (x_ld (S.1 18) 8 x2 (fun v1 => if v1 = x1 then (some (x2, S)) else (K2 x1 (x2 + 1) S)))
def jMenu_leastSaying_h2 : Nat → Int32 → Int32 → St → Option (Int32 × St)
  | 0, _, _, _ => none
  | n + 1, x1, x2, S => jMenu_leastSaying_b2 (jMenu_leastSaying_h2 n) x1 x2 S
def jMenu_leastSaying (x1 : Int32) (S : St) : Option (Int32 × St) :=
  jMenu_leastSaying_h2 FU x1 0 S
def jChain_begin_b23 (K2 : Int32 → Int32 → St → Option (St)) (x1 : Int32) (x2 : Int32) (t0 : Int64) (s1 : Int32) (S : St) : Option (St) :=
  x_gd 8 s1 (x_lt (upL S 37 (Int32.toNatClampNeg s1) t0) (fun S1 => K2 x1 (x2 + 1) S1))
def jChain_begin_b2 (K2 : Int32 → Int32 → St → Option (St)) (x1 : Int32) (x2 : Int32) (S : St) : Option (St) :=
  if 8 ≤ x2 then (some S) else (if x2 = x1 then (jChain_begin_b23 K2 x1 x2 1 x2 S) else (jChain_begin_b23 K2 x1 x2 0 x2 S))
def jChain_begin_h2 : Nat → Int32 → Int32 → St → Option (St)
  | 0, _, _, _ => none
  | n + 1, x1, x2, S => jChain_begin_b2 (jChain_begin_h2 n) x1 x2 S
def jChain_begin (x1 : Int32) (S : St) : Option (St) :=
  jChain_begin_h2 FU x1 0 S
def jSmoke_leastTerms_b44 (y0 : Int64) (y2 : Int64) (x4 : Int32) (y5 : Int64) (S : St) : Option (Int64 × St) :=
  if (lg_cmp y5 0) = 0 then (some ((-1), S)) else (if x4 = 0 then (if y5 = 0 then none else (some (y0 / y5, S))) else (if y5 = 0 then none else (some (y2 / y5, S))))
def jSmoke_leastTerms_b9 (K9 : Int64 → Int64 → Int32 → Int64 → Int64 → Int32 → St → Option (Int64 × St)) (y0 : Int64) (y2 : Int64) (x4 : Int32) (y5 : Int64) (y7 : Int64) (x9 : Int32) (S : St) : Option (Int64 × St) :=
  if 100 ≤ x9 then (jSmoke_leastTerms_b44 y0 y2 x4 y5 S) else (if (lg_cmp y7 0) = 0 then (jSmoke_leastTerms_b44 y0 y2 x4 y5 S) else (if y7 = 0 then none else (x_lt (y5 - y5 / y7 * y7) (fun v1 => K9 y0 y2 x4 y7 v1 (x9 + 1) S))))
def jSmoke_leastTerms_h9 : Nat → Int64 → Int64 → Int32 → Int64 → Int64 → Int32 → St → Option (Int64 × St)
  | 0, _, _, _, _, _, _, _ => none
  | n + 1, y0, y2, x4, y5, y7, x9, S => jSmoke_leastTerms_b9 (jSmoke_leastTerms_h9 n) y0 y2 x4 y5 y7 x9 S
def jSmoke_leastTerms (y0 : Int64) (y2 : Int64) (x4 : Int32) (S : St) : Option (Int64 × St) :=
  jSmoke_leastTerms_h9 FU y0 y2 x4 y0 y2 0 S
def jChain_read_b116 (K116 : Int32 → St → Option (St)) (x3 : Int32) (S : St) : Option (St) :=
  if 8 ≤ x3 then (some S) else (x_ld (S.2 38) 8 x3 (fun v1 => x_gd 8 x3 (x_lt (upL S 37 (Int32.toNatClampNeg x3) v1) (fun S2 => K116 (x3 + 1) S2))))
def jChain_read_h116 : Nat → Int32 → St → Option (St)
  | 0, _, _ => none
  | n + 1, x3, S => jChain_read_b116 (jChain_read_h116 n) x3 S
def jChain_read_b50 (K23 : Int32 → St → Option (St)) (K50 : Int32 → Int32 → Int32 → St → Option (St)) (x3 : Int32) (x4 : Int32) (x5 : Int32) (S : St) : Option (St) :=
  if 8 ≤ x5 then (K23 (x3 + 1) S) else (x_bd (jMenu_leastSaying x5 S) (fun v8 S7 => if v8 = (-1) then (K50 x3 x4 (x5 + 1) S7) else (x_ld (S7.2 38) 8 x4 (fun v9 => x_ld (S7.2 37) 8 x5 (fun v10 => x_ld (S7.1 17) 8 v8 (fun v11 => x_bd (jSuppers_thousandths v11 x3 S7) (fun v13 S12 => x_gd 8 x4 (x_lt (upL S12 38 (Int32.toNatClampNeg x4) (v9 + (v10 * (Int32.toInt64 v13)))) (fun S14 => K50 x3 x4 (x5 + 1) S14)))))))))
def jChain_read_h50 (K23 : Int32 → St → Option (St)) : Nat → Int32 → Int32 → Int32 → St → Option (St)
  | 0, _, _, _, _ => none
  | n + 1, x3, x4, x5, S => jChain_read_b50 K23 (jChain_read_h50 K23 n) x3 x4 x5 S
def jChain_read_b23 (K23 : Int32 → St → Option (St)) (x3 : Int32) (S : St) : Option (St) :=
  if 8 ≤ x3 then (jChain_read_h116 FU 0 S) else (x_bd (jMenu_meaning x3 S) (fun v4 S3 => x_bd (jSmoke_isWord v4 S3) (fun v6 S5 => if v6 = 0 then (K23 (x3 + 1) S5) else (jChain_read_h50 K23 FU x3 v4 0 S5))))
def jChain_read_h23 : Nat → Int32 → St → Option (St)
  | 0, _, _ => none
  | n + 1, x3, S => jChain_read_b23 (jChain_read_h23 n) x3 S
def jChain_read_b2 (K2 : Int32 → St → Option (St)) (x3 : Int32) (S : St) : Option (St) :=
  if 8 ≤ x3 then (jChain_read_h23 FU 0 S) else (x_gd 8 x3 (x_lt (upL S 38 (Int32.toNatClampNeg x3) 0) (fun S15 => K2 (x3 + 1) S15)))
def jChain_read_h2 : Nat → Int32 → St → Option (St)
  | 0, _, _ => none
  | n + 1, x3, S => jChain_read_b2 (jChain_read_h2 n) x3 S
def jChain_read (S : St) : Option (St) :=
  jChain_read_h2 FU 0 S
def jSmoke_chain_b63 (K63 : Int32 → Int32 → Int32 → Int64 → Int32 → St → Option (Int64 × St)) (x1 : Int32) (x2 : Int32) (x3 : Int32) (y4 : Int64) (x6 : Int32) (S : St) : Option (Int64 × St) :=
  if x2 ≤ x6 then (x_ld (S.2 37) 8 x1 (fun v6 => x_bd (jSmoke_leastTerms v6 y4 x3 S) (fun v8 S7 => some (v8, S7)))) else (x_bv (jChain_read S) (fun S9 => x_lt (y4 * 1000) (fun v10 => K63 x1 x2 x3 v10 (x6 + 1) S9)))
def jSmoke_chain_h63 : Nat → Int32 → Int32 → Int32 → Int64 → Int32 → St → Option (Int64 × St)
  | 0, _, _, _, _, _, _ => none
  | n + 1, x1, x2, x3, y4, x6, S => jSmoke_chain_b63 (jSmoke_chain_h63 n) x1 x2 x3 y4 x6 S
def jSmoke_chain (x1 : Int32) (x2 : Int32) (x3 : Int32) (S : St) : Option (Int64 × St) :=
  x_bd (jSmoke_isWord x1 S) (fun v2 S1 => if v2 = 0 then (some ((-1), S1)) else (if x2 < 1 then (some ((-1), S1)) else (if 4 < x2 then (some ((-1), S1)) else (if x3 < 0 then (some ((-1), S1)) else (if x3 ≤ 1 then (x_bd (jMenu_leastSaying x1 S1) (fun v4 S3 => if v4 = (-1) then (x_bd (jSmoke_leastTerms 0 1 x3 S3) (fun v12 S11 => some (v12, S11))) else (x_bv (jChain_begin x1 S3) (fun S5 => jSmoke_chain_h63 FU x1 x2 x3 1 0 S5)))) else (some ((-1), S1)))))))
def jSmoke_weightOf_b17 (K17 : Int32 → Int32 → Int32 → St → Option (Int32 × St)) (x2 : Int32) (x3 : Int32) (x4 : Int32) (S : St) : Option (Int32 × St) :=
  if (S.1 14 4) ≤ x4 then (some (x3, S)) else (x_bd (jMenu_fits_39 x4 S) (fun v3 S2 => if v3 = 0 then (K17 x2 x3 (x4 + 1) S2) else (x_ld (S2.1 17) 8 x4 (fun v4 => x_bd (jSuppers_thousandths v4 x2 S2) (fun v6 S5 => x_lt (x3 + v6) (fun v7 => K17 x2 v7 (x4 + 1) S5))))))
def jSmoke_weightOf_h17 : Nat → Int32 → Int32 → Int32 → St → Option (Int32 × St)
  | 0, _, _, _, _ => none
  | n + 1, x2, x3, x4, S => jSmoke_weightOf_b17 (jSmoke_weightOf_h17 n) x2 x3 x4 S
def jSmoke_weightOf (x1 : Int32) (x2 : Int32) (S : St) : Option (Int32 × St) :=
  x_bv (jSuppers_fill_39 x1 S) (fun S1 => jSmoke_weightOf_h17 FU x2 0 0 S1)
def jSmoke_who_b35 (K35 : Int32 → Int32 → Int32 → Int32 → Int32 → St → Option (Int32 × St)) (x1 : Int32) (x2 : Int32) (x3 : Int32) (x4 : Int32) (x5 : Int32) (S : St) : Option (Int32 × St) :=
  if (S.1 19 3) ≤ x5 then (if x4 = 0 then (some ((-2), S)) else (x_bd (jSmoke_weightOf x2 x1 S) (fun v6 S5 => x_bd (jSmoke_leastTerms (Int32.toInt64 v6) (Int32.toInt64 x4) x3 S5) (fun v8 S7 => some (Int64.toInt32 v8, S7))))) else (x_bd (jSmoke_weightOf x5 x1 S) (fun v10 S9 => x_lt (x4 + v10) (fun v11 => K35 x1 x2 x3 v11 (x5 + 1) S9)))
def jSmoke_who_h35 : Nat → Int32 → Int32 → Int32 → Int32 → Int32 → St → Option (Int32 × St)
  | 0, _, _, _, _, _, _ => none
  | n + 1, x1, x2, x3, x4, x5, S => jSmoke_who_b35 (jSmoke_who_h35 n) x1 x2 x3 x4 x5 S
def jSmoke_who (x1 : Int32) (x2 : Int32) (x3 : Int32) (S : St) : Option (Int32 × St) :=
  x_bd (jSmoke_isSmoke x1 S) (fun v2 S1 => if v2 = 0 then (some ((-1), S1)) else (x_bd (jSuppers_hasHouse x2 S1) (fun v4 S3 => if v4 = 0 then (some ((-1), S3)) else (if x3 < 0 then (some ((-1), S3)) else (if x3 ≤ 1 then (jSmoke_who_h35 FU x1 x2 x3 0 0 S3) else (some ((-1), S3)))))))
def jMenu_leanest_b4 (K4 : Int32 → Int32 → St → Option (Int32 × St)) (x2 : Int32) (x3 : Int32) (S : St) : Option (Int32 × St) :=
  if (S.1 14 4) ≤ x3 then (some (x2, S)) else (x_bd (jMenu_fits_39 x3 S) (fun v2 S1 => if v2 = 0 then (K4 x2 (x3 + 1) S1) else (if x2 = (-1) then (K4 x3 (x3 + 1) S1) else (x_ld (S1.1 16) 8 x3 (fun v3 => x_ld (S1.1 16) 8 x2 (fun v4 => if v4 ≤ v3 then (K4 x2 (x3 + 1) S1) else (K4 x3 (x3 + 1) S1)))))))
def jMenu_leanest_h4 : Nat → Int32 → Int32 → St → Option (Int32 × St)
  | 0, _, _, _ => none
  | n + 1, x2, x3, S => jMenu_leanest_b4 (jMenu_leanest_h4 n) x2 x3 S
def jMenu_leanest (S : St) : Option (Int32 × St) :=
  jMenu_leanest_h4 FU (-1) 0 S
def jMenu_take_39_b2 (K2 : Int32 → Int32 → St → Option (St)) (x1 : Int32) (x3 : Int32) (S : St) : Option (St) :=
  if 5 ≤ x3 then (some S) else (x_ld (S.1 39) 5 x3 (fun v1 => x_bd (jMenu_need x1 x3 S) (fun v3 S2 => x_gd 5 x3 (x_lt (upI S2 39 (Int32.toNatClampNeg x3) (v1 - v3)) (fun S4 => K2 x1 (x3 + 1) S4)))))
def jMenu_take_39_h2 : Nat → Int32 → Int32 → St → Option (St)
  | 0, _, _, _ => none
  | n + 1, x1, x3, S => jMenu_take_39_b2 (jMenu_take_39_h2 n) x1 x3 S
def jMenu_take_39 (x1 : Int32) (S : St) : Option (St) :=
  jMenu_take_39_h2 FU x1 0 S
def jSmoke_days_b27 (K27 : Int32 → St → Option (Int32 × St)) (x2 : Int32) (S : St) : Option (Int32 × St) :=
  if 30 ≤ x2 then (some (30, S)) else (x_bd (jMenu_leanest S) (fun v5 S4 => if v5 = (-1) then (some (x2, S4)) else (x_bv (jMenu_take_39 v5 S4) (fun S6 => K27 (x2 + 1) S6))))
def jSmoke_days_h27 : Nat → Int32 → St → Option (Int32 × St)
  | 0, _, _ => none
  | n + 1, x2, S => jSmoke_days_b27 (jSmoke_days_h27 n) x2 S
def jSmoke_days (x1 : Int32) (S : St) : Option (Int32 × St) :=
  x_bd (jSuppers_hasHouse x1 S) (fun v2 S1 => if v2 = 0 then (some ((-1), S1)) else (x_bv (jSuppers_fill_39 x1 S1) (fun S3 => jSmoke_days_h27 FU 0 S3)))
def jMenu_holds (x0 : Int32) (x1 : Int32) (S : St) : Option (Int32 × St) :=
  if ((x0 >>> (x1 &&& 31)) &&& 1) = 0 then (x_nr 0 (some (0, S))) else (x_nr 1 (some (1, S)))
def jMenu_standsOff_b3 (K3 : Int32 → Int32 → Int32 → Int32 → St → Option (Int32 × St)) (x1 : Int32) (x2 : Int32) (x3 : Int32) (x4 : Int32) (S : St) : Option (Int32 × St) :=
  if x2 ≤ x4 then (x_nr 1 (some (1, S))) else (x_bd (jMenu_holds x1 x4 S) (fun v2 S1 => if v2 = 0 then (K3 x1 x2 x3 (x4 + 1) S1) else (x_ld (S1.1 17) 8 x4 (fun v3 => x_ld (S1.1 17) 8 x2 (fun v4 => x_bd (jInt_bitCount (v3 ^^^ v4) S1) (fun v6 S5 => if x3 ≤ v6 then (K3 x1 x2 x3 (x4 + 1) S5) else (x_nr 0 (some (0, S5)))))))))
def jMenu_standsOff_h3 : Nat → Int32 → Int32 → Int32 → Int32 → St → Option (Int32 × St)
  | 0, _, _, _, _, _ => none
  | n + 1, x1, x2, x3, x4, S => jMenu_standsOff_b3 (jMenu_standsOff_h3 n) x1 x2 x3 x4 S
def jMenu_standsOff (x1 : Int32) (x2 : Int32) (x3 : Int32) (S : St) : Option (Int32 × St) :=
  jMenu_standsOff_h3 FU x1 x2 x3 0 S
def jMenu_tellsApart_b6 (K6 : Int32 → Int32 → Int32 → Int32 → St → Option (Int32 × St)) (x1 : Int32) (x3 : Int32) (x4 : Int32) (x5 : Int32) (S : St) : Option (Int32 × St) :=
  if (S.1 14 4) ≤ x5 then (x_nr 1 (some (1, S))) else (x_bd (jMenu_holds x1 x5 S) (fun v2 S1 => if v2 = 0 then (K6 x1 x3 x4 (x5 + 1) S1) else (x_ld (S1.1 18) 8 x5 (fun v3 => x_bd (jMenu_holds x4 v3 S1) (fun v5 S4 => if v5 = 0 then (x_nr 0 (some (0, S4))) else (x_bd (jMenu_standsOff x1 x5 x3 S4) (fun v7 S6 => if v7 = 0 then (x_nr 0 (some (0, S6))) else (x_ld (S6.1 18) 8 x5 (fun v8 => x_lt (x4 &&& ((1 <<< (v8 &&& 31)) ^^^ (-1))) (fun v9 => K6 x1 x3 v9 (x5 + 1) S6))))))))))
def jMenu_tellsApart_h6 : Nat → Int32 → Int32 → Int32 → Int32 → St → Option (Int32 × St)
  | 0, _, _, _, _, _ => none
  | n + 1, x1, x3, x4, x5, S => jMenu_tellsApart_b6 (jMenu_tellsApart_h6 n) x1 x3 x4 x5 S
def jMenu_tellsApart (x1 : Int32) (x2 : Int32) (x3 : Int32) (S : St) : Option (Int32 × St) :=
  jMenu_tellsApart_h6 FU x1 x3 x2 0 S
def jSmoke_code_b103 (K44 : Int32 → Int32 → Int32 → Int32 → Int32 → Int32 → St → Option (Int32 × St)) (x1 : Int32) (x2 : Int32) (x3 : Int32) (x4 : Int32) (x5 : Int32) (x6 : Int32) (x7 : Int32) (S : St) : Option (Int32 × St) :=
  x_lt (if x5 < x7 then x7 else x5) (fun v7 => K44 x1 x2 x3 x4 v7 (x6 + 1) S)
def jSmoke_code_b44 (K44 : Int32 → Int32 → Int32 → Int32 → Int32 → Int32 → St → Option (Int32 × St)) (x1 : Int32) (x2 : Int32) (x3 : Int32) (x4 : Int32) (x5 : Int32) (x6 : Int32) (S : St) : Option (Int32 × St) :=
  if (1 <<< ((S.1 14 4) &&& 31)) ≤ x6 then (if x3 = 0 then (some ((-9), S)) else (some (x5, S))) else (x_bd (jInt_bitCount x6 S) (fun v4 S3 => if x4 < v4 then (K44 x1 x2 x3 x4 x5 (x6 + 1) S3) else (x_bd (jMenu_tellsApart x6 x1 x2 S3) (fun v6 S5 => if v6 = 0 then (K44 x1 x2 x3 x4 x5 (x6 + 1) S5) else (if x3 = 0 then (if v4 = x4 then (some (x6, S5)) else (jSmoke_code_b103 K44 x1 x2 x3 x4 x5 x6 v4 S5)) else (jSmoke_code_b103 K44 x1 x2 x3 x4 x5 x6 v4 S5))))))
def jSmoke_code_h44 : Nat → Int32 → Int32 → Int32 → Int32 → Int32 → Int32 → St → Option (Int32 × St)
  | 0, _, _, _, _, _, _, _ => none
  | n + 1, x1, x2, x3, x4, x5, x6, S => jSmoke_code_b44 (jSmoke_code_h44 n) x1 x2 x3 x4 x5 x6 S
def jSmoke_code (x1 : Int32) (x2 : Int32) (x3 : Int32) (S : St) : Option (Int32 × St) :=
  if x1 < 0 then (some ((-1), S)) else (if 256 ≤ x1 then (some ((-1), S)) else (if x2 < 1 then (some ((-1), S)) else (if 3 < x2 then (some ((-1), S)) else (if x3 < 0 then (some ((-1), S)) else (if x3 ≤ 1 then (x_bd (jInt_bitCount x1 S) (fun v2 S1 => jSmoke_code_h44 FU x1 x2 x3 v2 0 0 S1)) else (some ((-1), S)))))))
def jMenu_smokeOfAll_b4 (K4 : Int32 → Int32 → Int32 → St → Option (Int32 × St)) (x1 : Int32) (x2 : Int32) (x3 : Int32) (S : St) : Option (Int32 × St) :=
  if (S.1 14 4) ≤ x3 then (some (x2, S)) else (x_bd (jMenu_holds x1 x3 S) (fun v2 S1 => if v2 = 0 then (K4 x1 x2 (x3 + 1) S1) else (x_ld (S1.1 17) 8 x3 (fun v3 => x_lt (x2 ||| v3) (fun v4 => K4 x1 v4 (x3 + 1) S1)))))
def jMenu_smokeOfAll_h4 : Nat → Int32 → Int32 → Int32 → St → Option (Int32 × St)
  | 0, _, _, _, _ => none
  | n + 1, x1, x2, x3, S => jMenu_smokeOfAll_b4 (jMenu_smokeOfAll_h4 n) x1 x2 x3 S
def jMenu_smokeOfAll (x1 : Int32) (S : St) : Option (Int32 × St) :=
  jMenu_smokeOfAll_h4 FU x1 0 0 S
def jMenu_anySays_b2 (K2 : Int32 → Int32 → Int32 → St → Option (Int32 × St)) (x1 : Int32) (x2 : Int32) (x3 : Int32) (S : St) : Option (Int32 × St) :=
  if (S.1 14 4) ≤ x3 then (x_nr 0 (some (0, S))) else (x_bd (jMenu_holds x1 x3 S) (fun v2 S1 => if v2 = 0 then (K2 x1 x2 (x3 + 1) S1) else (x_ld (S1.1 18) 8 x3 (fun v3 => if v3 = x2 then (x_nr 1 (some (1, S1))) else (K2 x1 x2 (x3 + 1) S1)))))
def jMenu_anySays_h2 : Nat → Int32 → Int32 → Int32 → St → Option (Int32 × St)
  | 0, _, _, _, _ => none
  | n + 1, x1, x2, x3, S => jMenu_anySays_b2 (jMenu_anySays_h2 n) x1 x2 x3 S
def jMenu_anySays (x1 : Int32) (x2 : Int32) (S : St) : Option (Int32 × St) :=
  jMenu_anySays_h2 FU x1 x2 0 S
def jSmoke_feast (x1 : Int32) (x2 : Int32) (S : St) : Option (Int32 × St) :=
  x_lt (x1 &&& ((1 <<< ((S.1 14 4) &&& 31)) - 1)) (fun v1 => if v1 = 0 then (some ((-1), S)) else (if x2 < 0 then (some ((-1), S)) else (if x2 ≤ 2 then (x_bd (jMenu_smokeOfAll v1 S) (fun v3 S2 => if x2 = 0 then (some (v3, S2)) else (x_bd (jMenu_meaning v3 S2) (fun v5 S4 => if x2 = 1 then (some (v5, S4)) else (if v5 = (-9) then (some (v5, S4)) else (x_bd (jMenu_anySays v1 v5 S4) (fun v7 S6 => if v7 = 0 then (some (1, S6)) else (some (0, S6))))))))) else (some ((-1), S)))))
def jSmoke_silent_b39 (K39 : Int32 → Int32 → St → Option (Int32 × St)) (x2 : Int32) (x3 : Int32) (S : St) : Option (Int32 × St) :=
  if (S.1 19 4) ≤ x3 then (some (x2, S)) else (x_ld (S.1 21) 20 x3 (fun v3 => x_lt (x2 &&& ((1 <<< (v3 &&& 31)) ^^^ (-1))) (fun v4 => K39 v4 (x3 + 1) S)))
def jSmoke_silent_h39 : Nat → Int32 → Int32 → St → Option (Int32 × St)
  | 0, _, _, _ => none
  | n + 1, x2, x3, S => jSmoke_silent_b39 (jSmoke_silent_h39 n) x2 x3 S
def jSmoke_silent (x1 : Int32) (S : St) : Option (Int32 × St) :=
  if x1 < 1 then (some ((-1), S)) else (if x1 ≤ 20 then (x_lt ((1 <<< ((S.1 19 3) &&& 31)) - 1) (fun v1 => x_lt (if 0 < ((S.1 19 4) - x1) then ((S.1 19 4) - x1) else 0) (fun v2 => jSmoke_silent_h39 FU v1 v2 S))) else (some ((-1), S)))
def jSuppers_draw (S : St) : Option (Int32 × St) :=
  x_lt (upI S 19 6 (((S.1 19 6) * 1103515245) + 12345)) (fun S1 => if 10 = 0 then none else (some ((x_ush (S1.1 19 6) 16) - (x_ush (S1.1 19 6) 16) / 10 * 10, S1)))
def jSmoke_drawn_b13 (K13 : Int32 → Int32 → St → Option (Int32 × St)) (x2 : Int32) (x3 : Int32) (S : St) : Option (Int32 × St) :=
  if 3 ≤ x3 then (some (x2, S)) else (x_bd (jSuppers_draw S) (fun v4 S3 => if (S3.1 19 5) ≤ v4 then (K13 x2 (x3 + 1) S3) else (x_lt (x2 ^^^ (1 <<< (x3 &&& 31))) (fun v5 => K13 v5 (x3 + 1) S3))))
def jSmoke_drawn_h13 : Nat → Int32 → Int32 → St → Option (Int32 × St)
  | 0, _, _, _ => none
  | n + 1, x2, x3, S => jSmoke_drawn_b13 (jSmoke_drawn_h13 n) x2 x3 S
def jSmoke_drawn (x1 : Int32) (S : St) : Option (Int32 × St) :=
  x_bd (jSmoke_isSmoke x1 S) (fun v2 S1 => if v2 = 0 then (some ((-1), S1)) else (jSmoke_drawn_h13 FU x1 0 S1))
def jSmoke_lot (x1 : Int32) (S : St) : Option (Int32 × St) :=
  x_lt (S.1 19 6) (fun v1 => x_lt (upI S 19 6 x1) (fun S2 => some (v1, S2)))
def jSmoke_markOfDish (x1 : Int32) (S : St) : Option (Int32 × St) :=
  x_lt (upL S 0 9 ((S.2 0 9) + 1)) (fun S1 => x_ld (S1.1 16) 8 x1 (fun v2 => some (v2, S1)))
def jSmoke_markOfStew (x1 : Int32) (S : St) : Option (Int32 × St) :=
  x_lt (upL S 0 9 ((S.2 0 9) + 10)) (fun S1 => x_bd (jSmoke_markOfDish x1 S1) (fun v3 S2 => some (v3 * 2, S2)))
def jSmoke_markOfRoast (x1 : Int32) (S : St) : Option (Int32 × St) :=
  x_lt (upL S 0 9 ((S.2 0 9) + 100)) (fun S1 => x_bd (jSmoke_markOfDish x1 S1) (fun v3 S2 => x_ld (S2.1 17) 8 x1 (fun v4 => some (v3 + v4, S2))))
def jSmoke_markOfBrides (x1 : Int32) (S : St) : Option (Int32 × St) :=
  x_lt (upL S 0 9 ((S.2 0 9) + 1000)) (fun S1 => x_bd (jSmoke_markOfStew x1 S1) (fun v3 S2 => some (v3 + x1, S2)))
def jSmoke_markOfPoor (x1 : Int32) (S : St) : Option (Int32 × St) :=
  x_lt (upL S 0 9 ((S.2 0 9) + 10000)) (fun S1 => x_bd (jSmoke_markOfRoast x1 S1) (fun v3 S2 => x_ld (S2.1 18) 8 x1 (fun v4 => some (v3 - v4, S2))))
def jSmoke_markOfBurnt (x1 : Int32) (S : St) : Option (Int32 × St) :=
  x_lt (upL S 0 9 ((S.2 0 9) + 100000)) (fun S1 => x_bd (jSmoke_markOfDish x1 S1) (fun v3 S2 => some (v3 + (S2.1 19 4), S2)))
def jSmoke_mark (x1 : Int32) (x2 : Int32) (S : St) : Option (Int32 × St) :=
  x_bd (jMenu_lists x2 S) (fun v2 S1 => if v2 = 0 then (some ((-1000000), S1)) else (if x1 = 0 then (x_bd (jSmoke_markOfDish x2 S1) (fun v4 S3 => some (v4, S3))) else (if x1 = 1 then (x_bd (jSmoke_markOfStew x2 S1) (fun v6 S5 => some (v6, S5))) else (if x1 = 2 then (x_bd (jSmoke_markOfRoast x2 S1) (fun v8 S7 => some (v8, S7))) else (if x1 = 3 then (x_bd (jSmoke_markOfBrides x2 S1) (fun v10 S9 => some (v10, S9))) else (if x1 = 4 then (x_bd (jSmoke_markOfPoor x2 S1) (fun v12 S11 => some (v12, S11))) else (if x1 = 5 then (x_bd (jSmoke_markOfBurnt x2 S1) (fun v14 S13 => some (v14, S13))) else (some ((-1000000), S1)))))))))
def jSmoke_imageOf (x1 : Int32) (S : St) : Option (Nat × St) :=
  if x1 = 0 then (some (23, S)) else (some (27, S))
def jSuppers_become_23_19_b60 (K60 : Int32 → St → Option (St)) (x2 : Int32) (S : St) : Option (St) :=
  if 20 ≤ x2 then (some S) else (x_ld (S.1 21) 20 x2 (fun v5 => x_gd 20 x2 (x_lt (upI S 25 (Int32.toNatClampNeg x2) v5) (fun S6 => x_ld (S6.1 22) 20 x2 (fun v7 => x_gd 20 x2 (x_lt (upI S6 26 (Int32.toNatClampNeg x2) v7) (fun S8 => K60 (x2 + 1) S8)))))))
def jSuppers_become_23_19_h60 : Nat → Int32 → St → Option (St)
  | 0, _, _ => none
  | n + 1, x2, S => jSuppers_become_23_19_b60 (jSuppers_become_23_19_h60 n) x2 S
def jSuppers_become_23_19_b34 (K34 : Int32 → St → Option (St)) (x2 : Int32) (S : St) : Option (St) :=
  if 30 ≤ x2 then (jSuppers_become_23_19_h60 FU 0 S) else (x_ld (S.1 20) 30 x2 (fun v9 => x_gd 30 x2 (x_lt (upI S 24 (Int32.toNatClampNeg x2) v9) (fun S10 => K34 (x2 + 1) S10))))
def jSuppers_become_23_19_h34 : Nat → Int32 → St → Option (St)
  | 0, _, _ => none
  | n + 1, x2, S => jSuppers_become_23_19_b34 (jSuppers_become_23_19_h34 n) x2 S
def jSuppers_become_23_19 (S : St) : Option (St) :=
  x_lt (upI S 23 3 (S.1 19 3)) (fun S1 => x_lt (upI S1 23 4 (S1.1 19 4)) (fun S2 => x_lt (upI S2 23 5 (S2.1 19 5)) (fun S3 => x_lt (upI S3 23 6 (S3.1 19 6)) (fun S4 => jSuppers_become_23_19_h34 FU 0 S4))))
def jSuppers_become_27_19_b60 (K60 : Int32 → St → Option (St)) (x2 : Int32) (S : St) : Option (St) :=
  if 20 ≤ x2 then (some S) else (x_ld (S.1 21) 20 x2 (fun v5 => x_gd 20 x2 (x_lt (upI S 29 (Int32.toNatClampNeg x2) v5) (fun S6 => x_ld (S6.1 22) 20 x2 (fun v7 => x_gd 20 x2 (x_lt (upI S6 30 (Int32.toNatClampNeg x2) v7) (fun S8 => K60 (x2 + 1) S8)))))))
def jSuppers_become_27_19_h60 : Nat → Int32 → St → Option (St)
  | 0, _, _ => none
  | n + 1, x2, S => jSuppers_become_27_19_b60 (jSuppers_become_27_19_h60 n) x2 S
def jSuppers_become_27_19_b34 (K34 : Int32 → St → Option (St)) (x2 : Int32) (S : St) : Option (St) :=
  if 30 ≤ x2 then (jSuppers_become_27_19_h60 FU 0 S) else (x_ld (S.1 20) 30 x2 (fun v9 => x_gd 30 x2 (x_lt (upI S 28 (Int32.toNatClampNeg x2) v9) (fun S10 => K34 (x2 + 1) S10))))
def jSuppers_become_27_19_h34 : Nat → Int32 → St → Option (St)
  | 0, _, _ => none
  | n + 1, x2, S => jSuppers_become_27_19_b34 (jSuppers_become_27_19_h34 n) x2 S
def jSuppers_become_27_19 (S : St) : Option (St) :=
  x_lt (upI S 27 3 (S.1 19 3)) (fun S1 => x_lt (upI S1 27 4 (S1.1 19 4)) (fun S2 => x_lt (upI S2 27 5 (S2.1 19 5)) (fun S3 => x_lt (upI S3 27 6 (S3.1 19 6)) (fun S4 => jSuppers_become_27_19_h34 FU 0 S4))))
def jSmoke_keep (x1 : Int32) (S : St) : Option (Int32 × St) :=
  if x1 < 0 then (some ((-1), S)) else (if x1 < 2 then (x_bd (jSmoke_imageOf x1 S) (fun v2 S1 => if v2 = 23 then (x_bv (jSuppers_become_23_19 S1) (fun S3 => x_lt (upI S3 23 7 1) (fun S4 => some (S4.1 23 4, S4)))) else (if v2 = 27 then (x_bv (jSuppers_become_27_19 S1) (fun S5 => x_lt (upI S5 27 7 1) (fun S6 => some (S6.1 27 4, S6)))) else (none)))) else (some ((-1), S)))
def jSuppers_become_19_23_b60 (K60 : Int32 → St → Option (St)) (x2 : Int32) (S : St) : Option (St) :=
  if 20 ≤ x2 then (some S) else (x_ld (S.1 25) 20 x2 (fun v5 => x_gd 20 x2 (x_lt (upI S 21 (Int32.toNatClampNeg x2) v5) (fun S6 => x_ld (S6.1 26) 20 x2 (fun v7 => x_gd 20 x2 (x_lt (upI S6 22 (Int32.toNatClampNeg x2) v7) (fun S8 => K60 (x2 + 1) S8)))))))
def jSuppers_become_19_23_h60 : Nat → Int32 → St → Option (St)
  | 0, _, _ => none
  | n + 1, x2, S => jSuppers_become_19_23_b60 (jSuppers_become_19_23_h60 n) x2 S
def jSuppers_become_19_23_b34 (K34 : Int32 → St → Option (St)) (x2 : Int32) (S : St) : Option (St) :=
  if 30 ≤ x2 then (jSuppers_become_19_23_h60 FU 0 S) else (x_ld (S.1 24) 30 x2 (fun v9 => x_gd 30 x2 (x_lt (upI S 20 (Int32.toNatClampNeg x2) v9) (fun S10 => K34 (x2 + 1) S10))))
def jSuppers_become_19_23_h34 : Nat → Int32 → St → Option (St)
  | 0, _, _ => none
  | n + 1, x2, S => jSuppers_become_19_23_b34 (jSuppers_become_19_23_h34 n) x2 S
def jSuppers_become_19_23 (S : St) : Option (St) :=
  x_lt (upI S 19 3 (S.1 23 3)) (fun S1 => x_lt (upI S1 19 4 (S1.1 23 4)) (fun S2 => x_lt (upI S2 19 5 (S2.1 23 5)) (fun S3 => x_lt (upI S3 19 6 (S3.1 23 6)) (fun S4 => jSuppers_become_19_23_h34 FU 0 S4))))
def jSuppers_become_19_27_b60 (K60 : Int32 → St → Option (St)) (x2 : Int32) (S : St) : Option (St) :=
  if 20 ≤ x2 then (some S) else (x_ld (S.1 29) 20 x2 (fun v5 => x_gd 20 x2 (x_lt (upI S 21 (Int32.toNatClampNeg x2) v5) (fun S6 => x_ld (S6.1 30) 20 x2 (fun v7 => x_gd 20 x2 (x_lt (upI S6 22 (Int32.toNatClampNeg x2) v7) (fun S8 => K60 (x2 + 1) S8)))))))
def jSuppers_become_19_27_h60 : Nat → Int32 → St → Option (St)
  | 0, _, _ => none
  | n + 1, x2, S => jSuppers_become_19_27_b60 (jSuppers_become_19_27_h60 n) x2 S
def jSuppers_become_19_27_b34 (K34 : Int32 → St → Option (St)) (x2 : Int32) (S : St) : Option (St) :=
  if 30 ≤ x2 then (jSuppers_become_19_27_h60 FU 0 S) else (x_ld (S.1 28) 30 x2 (fun v9 => x_gd 30 x2 (x_lt (upI S 20 (Int32.toNatClampNeg x2) v9) (fun S10 => K34 (x2 + 1) S10))))
def jSuppers_become_19_27_h34 : Nat → Int32 → St → Option (St)
  | 0, _, _ => none
  | n + 1, x2, S => jSuppers_become_19_27_b34 (jSuppers_become_19_27_h34 n) x2 S
def jSuppers_become_19_27 (S : St) : Option (St) :=
  x_lt (upI S 19 3 (S.1 27 3)) (fun S1 => x_lt (upI S1 19 4 (S1.1 27 4)) (fun S2 => x_lt (upI S2 19 5 (S2.1 27 5)) (fun S3 => x_lt (upI S3 19 6 (S3.1 27 6)) (fun S4 => jSuppers_become_19_27_h34 FU 0 S4))))
def jSmoke_back (x1 : Int32) (S : St) : Option (Int32 × St) :=
  if x1 < 0 then (some ((-1), S)) else (if x1 < 2 then (x_bd (jSmoke_imageOf x1 S) (fun v2 S1 => if v2 = 23 then (if (S1.1 23 7) = 0 then (some ((-2), S1)) else (x_bv (jSuppers_become_19_23 S1) (fun S3 => some (S3.1 19 4, S3)))) else (if v2 = 27 then (if (S1.1 27 7) = 0 then (some ((-2), S1)) else (x_bv (jSuppers_become_19_27 S1) (fun S4 => some (S4.1 19 4, S4)))) else (none)))) else (some ((-1), S)))
def jSmoke_count (x1 : Int32) (S : St) : Option (Int32 × St) :=
  if x1 = 0 then (some (S.1 19 3, S)) else (if x1 = 1 then (some (S.1 14 4, S)) else (if x1 = 2 then (some (S.1 19 4, S)) else (if x1 = 3 then (some (S.1 19 5, S)) else (if x1 = 4 then (some (S.1 1 1, S)) else (some ((-1), S))))))
def jSmoke_trace (S : St) : Option (Int64 × St) :=
  some (S.2 0 9, S)
end
section
def jMod_in (x0 : Int32) (x1 : Int32) (x2 : Int32) (S : St) : Option (Int32 × St) :=
  if x0 < x1 then (x_nr 0 (some (0, S))) else (if x2 < x0 then (x_nr 0 (some (0, S))) else (x_nr 1 (some (1, S))))
def jMod_type_b32 (K32 : Int64 → Int32 → St → Option (Int32 × St)) (y1 : Int64) (x4 : Int32) (S : St) : Option (Int32 × St) :=
  if x4 < 0 then (some (S.1 0 2, S)) else (x_gd 300 (S.1 0 2) (x_lt (upI S 1 (Int32.toNatClampNeg (S.1 0 2)) (vp_nar .byte (x_i2b (Int64.toInt32 ((x_lshr y1 (8 * x4)) &&& 255))))) (fun S4 => x_lt (upI S4 0 2 ((S4.1 0 2) + 1)) (fun S5 => K32 y1 (x4 + (-1)) S5))))
def jMod_type_h32 : Nat → Int64 → Int32 → St → Option (Int32 × St)
  | 0, _, _, _ => none
  | n + 1, y1, x4, S => jMod_type_b32 (jMod_type_h32 n) y1 x4 S
def jMod_type (y1 : Int64) (x3 : Int32) (S : St) : Option (Int32 × St) :=
  x_bd (jMod_in x3 1 8 S) (fun v2 S1 => if v2 = 0 then (some ((-1), S1)) else (if ((S1.1 0 2) + x3) ≤ 300 then (x_lt (x3 - 1) (fun v3 => jMod_type_h32 FU y1 v3 S1)) else (some ((-3), S1))))
def jMod_clear (S : St) : Option (Int32 × St) :=
  x_lt (S.1 0 2) (fun v1 => x_lt (upI S 0 2 0) (fun S2 => some (v1, S2)))
def jMod_here (S : St) : Option (Int32 × St) :=
  if (S.1 0 2) ≤ (S.1 0 10) then (some ((-1), S)) else (x_ld (S.1 1) 300 (S.1 0 10) (fun v1 => some (v1 &&& 255, S)))
def jMod_meaning (x0 : Int32) (S : St) : Option (Int32 × St) :=
  if x0 = 4786 then (some (2, S)) else (if x0 = 85814 then (some (1, S)) else (if x0 = 4562600 then (some (0, S)) else (some (6, S))))
def jMod_next_b287 (s0 : Int32) (S : St) : Option (St) :=
  x_lt (upI S 0 12 s0) (fun S12 => some S12)
def jMod_next_b258 (s0 : Int32) (S : St) : Option (St) :=
  x_lt (upI S 0 12 s0) (fun S17 => some S17)
def jMod_next_b207 (K161 : Int32 → St → Option (St)) (x1 : Int32) (s0 : Int32) (S : St) : Option (St) :=
  x_lt (upI S 0 13 s0) (fun S20 => x_lt (upI S20 0 10 ((S20.1 0 10) + 1)) (fun S21 => K161 x1 S21))
def jMod_next_b161 (K161 : Int32 → St → Option (St)) (x1 : Int32) (S : St) : Option (St) :=
  x_bd (jMod_here S) (fun v14 S13 => x_bd (jMod_in v14 48 57 S13) (fun v16 S15 => if v16 = 0 then (if 99 < (S15.1 0 13) then (jMod_next_b258 6 S15) else (if x1 = 48 then (if ((S15.1 0 10) - (S15.1 0 11)) ≤ 1 then (jMod_next_b258 4 S15) else (jMod_next_b258 6 S15)) else (jMod_next_b258 4 S15))) else (if (S15.1 0 13) ≤ 99 then (x_bd (jMod_here S15) (fun v19 S18 => jMod_next_b207 K161 x1 (((10 * (S15.1 0 13)) + v19) - 48) S18)) else (jMod_next_b207 K161 x1 (S15.1 0 13) S15))))
def jMod_next_h161 : Nat → Int32 → St → Option (St)
  | 0, _, _ => none
  | n + 1, x1, S => jMod_next_b161 (jMod_next_h161 n) x1 S
def jMod_next_b141 (s0 : Int32) (S : St) : Option (St) :=
  x_bd (jMod_meaning s0 S) (fun v27 S26 => x_lt (upI S26 0 12 v27) (fun S28 => some S28))
def jMod_next_b108 (K65 : Int32 → St → Option (St)) (s0 : Int32) (S : St) : Option (St) :=
  x_lt (upI S 0 10 ((S.1 0 10) + 1)) (fun S29 => K65 s0 S29)
def jMod_next_b65 (K65 : Int32 → St → Option (St)) (x2 : Int32) (S : St) : Option (St) :=
  x_bd (jMod_here S) (fun v23 S22 => x_bd (jMod_in v23 97 122 S22) (fun v25 S24 => if v25 = 0 then (if ((S24.1 0 10) - (S24.1 0 11)) ≤ 5 then (jMod_next_b141 x2 S24) else (jMod_next_b141 0 S24)) else (if 5 ≤ ((S24.1 0 10) - (S24.1 0 11)) then (jMod_next_b108 K65 0 S24) else (x_bd (jMod_here S24) (fun v31 S30 => jMod_next_b108 K65 (((27 * x2) + v31) - 96) S30)))))
def jMod_next_h65 : Nat → Int32 → St → Option (St)
  | 0, _, _ => none
  | n + 1, x2, S => jMod_next_b65 (jMod_next_h65 n) x2 S
def jMod_next_b0 (K0 : St → Option (St)) (S : St) : Option (St) :=
  x_bd (jMod_here S) (fun v2 S1 => if v2 = 32 then (x_lt (upI S1 0 10 ((S1.1 0 10) + 1)) (fun S33 => K0 S33)) else (x_lt (upI S1 0 11 (S1.1 0 10)) (fun S3 => x_lt (upI S3 0 13 0) (fun S4 => x_bd (jMod_here S4) (fun v6 S5 => if 0 ≤ v6 then (x_bd (jMod_in v6 97 122 S5) (fun v8 S7 => if v8 = 0 then (x_bd (jMod_in v6 48 57 S7) (fun v10 S9 => if v10 = 0 then (x_lt (upI S9 0 10 ((S9.1 0 10) + 1)) (fun S11 => if v6 = 59 then (jMod_next_b287 5 S11) else (jMod_next_b287 6 S11))) else (jMod_next_h161 FU v6 S9))) else (jMod_next_h65 FU 0 S7))) else (x_lt (upI S5 0 12 3) (fun S32 => some S32)))))))
def jMod_next_h0 : Nat → St → Option (St)
  | 0, _ => none
  | n + 1, S => jMod_next_b0 (jMod_next_h0 n) S
def jMod_next (S : St) : Option (St) := jMod_next_h0 FU S
def jMod_due (x1 : Int32) (S : St) : Option (Int32 × St) :=
  x_lt (S.1 0 13) (fun v1 => if (S.1 0 14) = (-9) then (if x1 = 0 then (x_lt (upI S 0 14 (S.1 0 11)) (fun S2 => some (v1, S2))) else (x_bv (jMod_next S) (fun S3 => some (v1, S3)))) else (some (v1, S)))
def jMod_number_b26 (s0 : Int32) (S : St) : Option (Int32 × St) :=
  x_bd (jMod_due s0 S) (fun v2 S1 => some (v2, S1))
def jMod_number (x1 : Int32) (S : St) : Option (Int32 × St) :=
  if (S.1 0 12) = 4 then (x_bd (jMod_in (S.1 0 13) 0 x1 S) (fun v4 S3 => if v4 = 0 then (jMod_number_b26 0 S3) else (jMod_number_b26 1 S3))) else (jMod_number_b26 0 S)
def jMod_readItem_b235 (s0 : Int32) (S : St) : Option (St) :=
  x_bd (jMod_due s0 S) (fun v9 S8 => some S8)
def jMod_readItem_b221 (S : St) : Option (St) :=
  if (S.1 0 12) = 5 then (jMod_readItem_b235 1 S) else (jMod_readItem_b235 0 S)
def jMod_readItem_b141 (K141 : Int32 → Int32 → St → Option (St)) (x2 : Int32) (x3 : Int32) (S : St) : Option (St) :=
  if 5 ≤ x3 then (x_bd (jMod_number 7 S) (fun v13 S12 => x_gd 16 x2 (x_lt (upI S12 6 (Int32.toNatClampNeg x2) v13) (fun S14 => x_bd (jMod_number 7 S14) (fun v16 S15 => x_gd 16 x2 (x_lt (upI S15 7 (Int32.toNatClampNeg x2) v16) (fun S17 => x_ld (S17.1 4) 2 1 (fun v18 => x_gd 2 1 (x_lt (upI S17 4 (Int32.toNatClampNeg 1) (v18 + 1)) (fun S19 => jMod_readItem_b221 S19)))))))))) else (x_bd (jMod_number 9 S) (fun v21 S20 => x_gd 80 ((5 * x2) + x3) (x_lt (upI S20 5 (Int32.toNatClampNeg ((5 * x2) + x3)) v21) (fun S22 => K141 x2 (x3 + 1) S22))))
def jMod_readItem_h141 : Nat → Int32 → Int32 → St → Option (St)
  | 0, _, _, _ => none
  | n + 1, x2, x3, S => jMod_readItem_b141 (jMod_readItem_h141 n) x2 x3 S
def jMod_readItem_b84 (K84 : Int32 → Int32 → St → Option (St)) (x2 : Int32) (x3 : Int32) (S : St) : Option (St) :=
  if 5 ≤ x3 then (x_ld (S.1 2) 2 1 (fun v25 => x_gd 2 1 (x_lt (upI S 2 (Int32.toNatClampNeg 1) (v25 + 1)) (fun S26 => jMod_readItem_b221 S26)))) else (x_bd (jMod_number 9 S) (fun v28 S27 => x_gd 60 ((5 * x2) + x3) (x_lt (upI S27 3 (Int32.toNatClampNeg ((5 * x2) + x3)) v28) (fun S29 => K84 x2 (x3 + 1) S29))))
def jMod_readItem_h84 : Nat → Int32 → Int32 → St → Option (St)
  | 0, _, _, _ => none
  | n + 1, x2, x3, S => jMod_readItem_b84 (jMod_readItem_h84 n) x2 x3 S
def jMod_readItem_b54 (x1 : Int32) (s0 : Int32) (S : St) : Option (St) :=
  x_bd (jMod_due s0 S) (fun v3 S2 => if (S2.1 0 14) = (-9) then (if x1 = 0 then (x_ld (S2.1 2) 2 1 (fun v23 => x_lt (6 + v23) (fun v24 => jMod_readItem_h84 FU v24 0 S2))) else (if x1 = 1 then (x_ld (S2.1 4) 2 1 (fun v10 => x_lt (8 + v10) (fun v11 => jMod_readItem_h141 FU v11 0 S2))) else (x_bd (jMod_number 5 S2) (fun v5 S4 => x_gd 2 1 (x_lt (upI S4 8 (Int32.toNatClampNeg 1) v5) (fun S6 => x_lt (upI S6 0 15 1) (fun S7 => jMod_readItem_b221 S7))))))) else (some S2))
def jMod_readItem_b37 (x1 : Int32) (S : St) : Option (St) :=
  if x1 = 2 then (if (S.1 0 15) = 0 then (jMod_readItem_b54 x1 1 S) else (jMod_readItem_b54 x1 0 S)) else (jMod_readItem_b54 x1 0 S)
def jMod_readItem_b21 (x1 : Int32) (S : St) : Option (St) :=
  if x1 = 1 then (x_ld (S.1 4) 2 1 (fun v30 => if v30 < 8 then (jMod_readItem_b54 x1 1 S) else (jMod_readItem_b37 x1 S))) else (jMod_readItem_b37 x1 S)
def jMod_readItem (S : St) : Option (St) :=
  x_lt (S.1 0 12) (fun v1 => if v1 = 0 then (x_ld (S.1 2) 2 1 (fun v31 => if v31 < 6 then (jMod_readItem_b54 v1 1 S) else (jMod_readItem_b21 v1 S))) else (jMod_readItem_b21 v1 S))
def jMod_valley_b171 (K171 : Int32 → Int32 → St → Option (Int32 × St)) (x1 : Int32) (x2 : Int32) (S : St) : Option (Int32 × St) :=
  if 8 ≤ x2 then (x_ld (S.1 8) 2 1 (fun v12 => x_gd 219 30 (x_lt (upI S 9 (Int32.toNatClampNeg 30) v12) (fun S13 => x_gd 219 32 (x_lt (upI S13 9 (Int32.toNatClampNeg 32) 0) (fun S14 => x_gd 2 0 (x_lt (upI S14 10 (Int32.toNatClampNeg 0) (vp_nar .boolean 0)) (fun S15 => x_gd 2 1 (x_lt (upI S15 10 (Int32.toNatClampNeg 1) (vp_nar .boolean 0)) (fun S16 => x_lt (upI S16 0 2 0) (fun S17 => some (x1, S17)))))))))))) else (x_ld (S.1 6) 16 (8 + x2) (fun v18 => x_gd 16 x2 (x_lt (upI S 6 (Int32.toNatClampNeg x2) v18) (fun S19 => x_ld (S19.1 7) 16 (8 + x2) (fun v20 => x_gd 16 x2 (x_lt (upI S19 7 (Int32.toNatClampNeg x2) v20) (fun S21 => K171 x1 (x2 + 1) S21)))))))
def jMod_valley_h171 : Nat → Int32 → Int32 → St → Option (Int32 × St)
  | 0, _, _, _ => none
  | n + 1, x1, x2, S => jMod_valley_b171 (jMod_valley_h171 n) x1 x2 S
def jMod_valley_b142 (K142 : Int32 → Int32 → St → Option (Int32 × St)) (x1 : Int32) (x2 : Int32) (S : St) : Option (Int32 × St) :=
  if 40 ≤ x2 then (jMod_valley_h171 FU x1 0 S) else (x_ld (S.1 5) 80 (40 + x2) (fun v22 => x_gd 80 x2 (x_lt (upI S 5 (Int32.toNatClampNeg x2) v22) (fun S23 => K142 x1 (x2 + 1) S23))))
def jMod_valley_h142 : Nat → Int32 → Int32 → St → Option (Int32 × St)
  | 0, _, _, _ => none
  | n + 1, x1, x2, S => jMod_valley_b142 (jMod_valley_h142 n) x1 x2 S
def jMod_valley_b113 (K113 : Int32 → Int32 → St → Option (Int32 × St)) (x1 : Int32) (x2 : Int32) (S : St) : Option (Int32 × St) :=
  if 30 ≤ x2 then (jMod_valley_h142 FU x1 0 S) else (x_ld (S.1 3) 60 (30 + x2) (fun v24 => x_gd 219 x2 (x_lt (upI S 9 (Int32.toNatClampNeg x2) v24) (fun S25 => K113 x1 (x2 + 1) S25))))
def jMod_valley_h113 : Nat → Int32 → Int32 → St → Option (Int32 × St)
  | 0, _, _, _ => none
  | n + 1, x1, x2, S => jMod_valley_b113 (jMod_valley_h113 n) x1 x2 S
def jMod_valley_b70 (x1 : Int32) (S : St) : Option (Int32 × St) :=
  if (S.1 0 14) = (-9) then (x_ld (S.1 2) 2 1 (fun v8 => x_gd 2 0 (x_lt (upI S 2 (Int32.toNatClampNeg 0) v8) (fun S9 => x_ld (S9.1 4) 2 1 (fun v10 => x_gd 2 0 (x_lt (upI S9 4 (Int32.toNatClampNeg 0) v10) (fun S11 => jMod_valley_h113 FU x1 0 S11))))))) else (some ((-10) - (S.1 0 14), S))
def jMod_valley_b43 (K43 : Int32 → St → Option (Int32 × St)) (x1 : Int32) (S : St) : Option (Int32 × St) :=
  if (S.1 0 14) = (-9) then (if (S.1 0 12) = 3 then (jMod_valley_b70 x1 S) else (x_bv (jMod_readItem S) (fun S26 => K43 (x1 + 1) S26))) else (jMod_valley_b70 x1 S)
def jMod_valley_h43 : Nat → Int32 → St → Option (Int32 × St)
  | 0, _, _ => none
  | n + 1, x1, S => jMod_valley_b43 (jMod_valley_h43 n) x1 S
def jMod_valley (S : St) : Option (Int32 × St) :=
  x_lt (upI S 0 10 0) (fun S1 => x_lt (upI S1 0 14 (-9)) (fun S2 => x_gd 2 1 (x_lt (upI S2 2 (Int32.toNatClampNeg 1) 0) (fun S3 => x_gd 2 1 (x_lt (upI S3 4 (Int32.toNatClampNeg 1) 0) (fun S4 => x_gd 2 1 (x_lt (upI S4 8 (Int32.toNatClampNeg 1) 0) (fun S5 => x_lt (upI S5 0 15 0) (fun S6 => x_bv (jMod_next S6) (fun S7 => jMod_valley_h43 FU 0 S7))))))))))
def jMod_isHouse (x1 : Int32) (S : St) : Option (Int32 × St) :=
  x_ld (S.1 2) 2 0 (fun v1 => x_bd (jMod_in x1 0 (v1 - 1) S) (fun v3 S2 => x_nr v3 (some (v3, S2))))
def jMod_storeOf_b4 (K4 : Int32 → Int32 → Int32 → St → Option (Int32 × St)) (x1 : Int32) (x2 : Int32) (x3 : Int32) (S : St) : Option (Int32 × St) :=
  if 5 ≤ x3 then (some (x2, S)) else (x_ld (S.1 9) 219 ((5 * x1) + x3) (fun v1 => x_lt (x2 + v1) (fun v2 => K4 x1 v2 (x3 + 1) S)))
def jMod_storeOf_h4 : Nat → Int32 → Int32 → Int32 → St → Option (Int32 × St)
  | 0, _, _, _, _ => none
  | n + 1, x1, x2, x3, S => jMod_storeOf_b4 (jMod_storeOf_h4 n) x1 x2 x3 S
def jMod_storeOf (x1 : Int32) (S : St) : Option (Int32 × St) :=
  jMod_storeOf_h4 FU x1 0 0 S
def jMod_house (x1 : Int32) (x2 : Int32) (S : St) : Option (Int32 × St) :=
  x_bd (jMod_isHouse x1 S) (fun v2 S1 => if v2 = 0 then (some ((-1), S1)) else (x_bd (jMod_in x2 0 5 S1) (fun v4 S3 => if v4 = 0 then (some ((-1), S3)) else (if 5 ≤ x2 then (x_bd (jMod_storeOf x1 S3) (fun v6 S5 => some (v6, S5))) else (x_ld (S3.1 9) 219 ((5 * x1) + x2) (fun v7 => some (v7, S3)))))))
def jMod_isDish (x1 : Int32) (S : St) : Option (Int32 × St) :=
  x_ld (S.1 4) 2 0 (fun v1 => x_bd (jMod_in x1 0 (v1 - 1) S) (fun v3 S2 => x_nr v3 (some (v3, S2))))
def jMod_unitsOf_b4 (K4 : Int32 → Int32 → Int32 → St → Option (Int32 × St)) (x1 : Int32) (x2 : Int32) (x3 : Int32) (S : St) : Option (Int32 × St) :=
  if 5 ≤ x3 then (some (x2, S)) else (x_ld (S.1 5) 80 ((5 * x1) + x3) (fun v1 => x_lt (x2 + v1) (fun v2 => K4 x1 v2 (x3 + 1) S)))
def jMod_unitsOf_h4 : Nat → Int32 → Int32 → Int32 → St → Option (Int32 × St)
  | 0, _, _, _, _ => none
  | n + 1, x1, x2, x3, S => jMod_unitsOf_b4 (jMod_unitsOf_h4 n) x1 x2 x3 S
def jMod_unitsOf (x1 : Int32) (S : St) : Option (Int32 × St) :=
  jMod_unitsOf_h4 FU x1 0 0 S
def jMod_dish (x1 : Int32) (x2 : Int32) (S : St) : Option (Int32 × St) :=
  x_bd (jMod_isDish x1 S) (fun v2 S1 => if v2 = 0 then (some ((-1), S1)) else (x_bd (jMod_in x2 0 7 S1) (fun v4 S3 => if v4 = 0 then (some ((-1), S3)) else (if 5 ≤ x2 then (if x2 = 5 then (x_ld (S3.1 6) 16 x1 (fun v8 => some (v8, S3))) else (if x2 = 6 then (x_ld (S3.1 7) 16 x1 (fun v7 => some (v7, S3))) else (x_bd (jMod_unitsOf x1 S3) (fun v6 S5 => some (v6, S5))))) else (x_ld (S3.1 5) 80 ((5 * x1) + x2) (fun v9 => some (v9, S3)))))))
def jMod_canCook_b5 (K5 : Int32 → Int32 → Int32 → Int32 → St → Option (Int32 × St)) (x1 : Int32) (x2 : Int32) (x3 : Int32) (x4 : Int32) (S : St) : Option (Int32 × St) :=
  if 5 ≤ x4 then (x_nr x3 (some (x3, S))) else (if x3 = 0 then (K5 x1 x2 0 (x4 + 1) S) else (x_ld (S.1 9) 219 ((5 * x1) + x4) (fun v1 => x_ld (S.1 5) 80 ((5 * x2) + x4) (fun v2 => if v1 < v2 then (K5 x1 x2 0 (x4 + 1) S) else (K5 x1 x2 1 (x4 + 1) S)))))
def jMod_canCook_h5 : Nat → Int32 → Int32 → Int32 → Int32 → St → Option (Int32 × St)
  | 0, _, _, _, _, _ => none
  | n + 1, x1, x2, x3, x4, S => jMod_canCook_b5 (jMod_canCook_h5 n) x1 x2 x3 x4 S
def jMod_canCook (x1 : Int32) (x2 : Int32) (S : St) : Option (Int32 × St) :=
  jMod_canCook_h5 FU x1 x2 1 0 S
def jMod_cook_b47 (K47 : Int32 → Int32 → Int32 → St → Option (Int32 × St)) (x1 : Int32) (x2 : Int32) (x3 : Int32) (S : St) : Option (Int32 × St) :=
  if 5 ≤ x3 then (x_ld (S.1 9) 219 32 (fun v8 => x_gd 219 (33 + (2 * v8)) (x_lt (upI S 9 (Int32.toNatClampNeg (33 + (2 * v8))) x1) (fun S9 => x_ld (S9.1 9) 219 32 (fun v10 => x_gd 219 ((33 + (2 * v10)) + 1) (x_lt (upI S9 9 (Int32.toNatClampNeg ((33 + (2 * v10)) + 1)) x2) (fun S11 => x_ld (S11.1 9) 219 32 (fun v12 => x_gd 219 32 (x_lt (upI S11 9 (Int32.toNatClampNeg 32) (v12 + 1)) (fun S13 => x_ld (S13.1 6) 16 x2 (fun v14 => some (v14, S13)))))))))))) else (x_ld (S.1 9) 219 ((5 * x1) + x3) (fun v15 => x_ld (S.1 5) 80 ((5 * x2) + x3) (fun v16 => x_gd 219 ((5 * x1) + x3) (x_lt (upI S 9 (Int32.toNatClampNeg ((5 * x1) + x3)) (v15 - v16)) (fun S17 => K47 x1 x2 (x3 + 1) S17)))))
def jMod_cook_h47 : Nat → Int32 → Int32 → Int32 → St → Option (Int32 × St)
  | 0, _, _, _, _ => none
  | n + 1, x1, x2, x3, S => jMod_cook_b47 (jMod_cook_h47 n) x1 x2 x3 S
def jMod_cook (x1 : Int32) (x2 : Int32) (S : St) : Option (Int32 × St) :=
  x_bd (jMod_isHouse x1 S) (fun v2 S1 => if v2 = 0 then (some ((-1), S1)) else (x_bd (jMod_isDish x2 S1) (fun v4 S3 => if v4 = 0 then (some ((-1), S3)) else (x_bd (jMod_canCook x1 x2 S3) (fun v6 S5 => if v6 = 0 then (some ((-2), S5)) else (x_ld (S5.1 9) 219 32 (fun v7 => if v7 = 20 then (some ((-3), S5)) else (jMod_cook_h47 FU x1 x2 0 S5))))))))
def jMod_undo_b115 (K64 : Int32 → Int32 → Int32 → St → Option (Int32 × St)) (x1 : Int32) (x2 : Int32) (x3 : Int32) (s0 : Int32) (s1 : Int32) (S : St) : Option (Int32 × St) :=
  x_gd 219 s1 (x_lt (upI S 9 (Int32.toNatClampNeg s1) s0) (fun S12 => K64 x1 x2 (x3 + 1) S12))
def jMod_undo_b64 (K64 : Int32 → Int32 → Int32 → St → Option (Int32 × St)) (x1 : Int32) (x2 : Int32) (x3 : Int32) (S : St) : Option (Int32 × St) :=
  if 5 ≤ x3 then (x_ld (S.1 9) 219 32 (fun v8 => some (v8, S))) else (x_ld (S.1 9) 219 ((5 * x1) + x3) (fun v9 => x_ld (S.1 5) 80 ((5 * x2) + x3) (fun v10 => x_lt (v9 + v10) (fun v11 => if v11 ≤ 9 then (jMod_undo_b115 K64 x1 x2 x3 v11 ((5 * x1) + x3) S) else (jMod_undo_b115 K64 x1 x2 x3 9 ((5 * x1) + x3) S)))))
def jMod_undo_h64 : Nat → Int32 → Int32 → Int32 → St → Option (Int32 × St)
  | 0, _, _, _, _ => none
  | n + 1, x1, x2, x3, S => jMod_undo_b64 (jMod_undo_h64 n) x1 x2 x3 S
def jMod_undo (S : St) : Option (Int32 × St) :=
  x_ld (S.1 9) 219 32 (fun v1 => if v1 = 0 then (some ((-2), S)) else (x_ld (S.1 9) 219 32 (fun v2 => x_gd 219 32 (x_lt (upI S 9 (Int32.toNatClampNeg 32) (v2 - 1)) (fun S3 => x_ld (S3.1 9) 219 32 (fun v4 => x_ld (S3.1 9) 219 (33 + (2 * v4)) (fun v5 => x_ld (S3.1 9) 219 32 (fun v6 => x_ld (S3.1 9) 219 ((33 + (2 * v6)) + 1) (fun v7 => jMod_undo_h64 FU v5 v7 0 S3)))))))))
def jMod_gives (x1 : Int32) (x2 : Int32) (x3 : Int32) (x4 : Int32) (S : St) : Option (Int32 × St) :=
  x_bd (jMod_isHouse x1 S) (fun v2 S1 => if v2 = 0 then (some ((-1), S1)) else (x_bd (jMod_isHouse x2 S1) (fun v4 S3 => if v4 = 0 then (some ((-1), S3)) else (if x1 = x2 then (some ((-1), S3)) else (x_bd (jMod_in x3 0 4 S3) (fun v6 S5 => if v6 = 0 then (some ((-1), S5)) else (x_bd (jMod_in x4 1 9 S5) (fun v8 S7 => if v8 = 0 then (some ((-1), S7)) else (x_ld (S7.1 9) 219 ((5 * x1) + x3) (fun v9 => if x4 ≤ v9 then (x_ld (S7.1 9) 219 ((5 * x2) + x3) (fun v10 => if (v10 + x4) ≤ 9 then (x_ld (S7.1 9) 219 ((5 * x1) + x3) (fun v11 => x_gd 219 ((5 * x1) + x3) (x_lt (upI S7 9 (Int32.toNatClampNeg ((5 * x1) + x3)) (v11 - x4)) (fun S12 => x_ld (S12.1 9) 219 ((5 * x2) + x3) (fun v13 => x_gd 219 ((5 * x2) + x3) (x_lt (upI S12 9 (Int32.toNatClampNeg ((5 * x2) + x3)) (v13 + x4)) (fun S14 => x_ld (S14.1 9) 219 ((5 * x2) + x3) (fun v15 => some (v15, S14))))))))) else (some ((-3), S7)))) else (some ((-2), S7))))))))))))
def jMod_burns_b18 (K18 : Int32 → Int32 → Int32 → St → Option (Int32 × St)) (x1 : Int32) (x2 : Int32) (x3 : Int32) (S : St) : Option (Int32 × St) :=
  if 5 ≤ x3 then (some (x2, S)) else (x_gd 219 ((5 * x1) + x3) (x_lt (upI S 9 (Int32.toNatClampNeg ((5 * x1) + x3)) 0) (fun S5 => K18 x1 x2 (x3 + 1) S5)))
def jMod_burns_h18 : Nat → Int32 → Int32 → Int32 → St → Option (Int32 × St)
  | 0, _, _, _, _ => none
  | n + 1, x1, x2, x3, S => jMod_burns_b18 (jMod_burns_h18 n) x1 x2 x3 S
def jMod_burns (x1 : Int32) (S : St) : Option (Int32 × St) :=
  x_bd (jMod_isHouse x1 S) (fun v2 S1 => if v2 = 0 then (some ((-1), S1)) else (x_bd (jMod_storeOf x1 S1) (fun v4 S3 => jMod_burns_h18 FU x1 v4 0 S3)))
def jMod_plume (x1 : Int32) (x2 : Int32) (S : St) : Option (Int32 × St) :=
  x_ld (S.1 9) 219 32 (fun v1 => x_bd (jMod_in x1 0 (v1 - 1) S) (fun v3 S2 => if v3 = 0 then (some ((-1), S2)) else (x_bd (jMod_in x2 0 1 S2) (fun v5 S4 => if v5 = 0 then (some ((-1), S4)) else (if x2 = 0 then (x_ld (S4.1 9) 219 (33 + (2 * x1)) (fun v8 => some (v8, S4))) else (x_ld (S4.1 9) 219 ((33 + (2 * x1)) + 1) (fun v6 => x_ld (S4.1 6) 16 v6 (fun v7 => some (v7, S4)))))))))
def jMod_fog (x1 : Int32) (S : St) : Option (Int32 × St) :=
  x_bd (jMod_in x1 0 5 S) (fun v2 S1 => if v2 = 0 then (some ((-1), S1)) else (x_ld (S1.1 9) 219 30 (fun v3 => x_gd 219 30 (x_lt (upI S1 9 (Int32.toNatClampNeg 30) x1) (fun S4 => some (v3, S4))))))
def jMod_areWords (x0 : Int32) (x1 : Int32) (x2 : Int32) (S : St) : Option (Int32 × St) :=
  x_bd (jMod_in x0 0 7 S) (fun v2 S1 => if v2 = 0 then (x_nr 0 (some (0, S1))) else (x_bd (jMod_in x1 (-1) 7 S1) (fun v4 S3 => if v4 = 0 then (x_nr 0 (some (0, S3))) else (x_bd (jMod_in x2 (-1) 7 S3) (fun v6 S5 => if v6 = 0 then (x_nr 0 (some (0, S5))) else (if 0 ≤ x1 then (x_nr 1 (some (1, S5))) else (if 0 ≤ x2 then (x_nr 0 (some (0, S5))) else (x_nr 1 (some (1, S5))))))))))
def jMod_ask (x1 : Int32) (x2 : Int32) (x3 : Int32) (S : St) : Option (St) :=
  x_gd 3 0 (x_lt (upI S 13 (Int32.toNatClampNeg 0) x1) (fun S1 => x_gd 3 1 (x_lt (upI S1 13 (Int32.toNatClampNeg 1) x2) (fun S2 => x_gd 3 2 (x_lt (upI S2 13 (Int32.toNatClampNeg 2) x3) (fun S3 => some S3))))))
def jMod_isRow_b69 (K38 : Int32 → Int32 → Int32 → St → Option (Int32 × St)) (x2 : Int32) (x3 : Int32) (x4 : Int32) (s0 : Int32) (S : St) : Option (Int32 × St) :=
  if x3 = 0 then (K38 x2 0 (x4 + 1) S) else (if s0 = 0 then (x_ld (S.1 11) 3 x4 (fun v4 => if v4 = 8 then (K38 x2 1 (x4 + 1) S) else (K38 x2 0 (x4 + 1) S))) else (x_ld (S.1 11) 3 x4 (fun v5 => x_ld (S.1 4) 2 0 (fun v6 => if v6 ≤ v5 then (K38 x2 0 (x4 + 1) S) else (x_ld (S.1 11) 3 x4 (fun v7 => x_ld (S.1 7) 16 v7 (fun v8 => x_ld (S.1 13) 3 x4 (fun v9 => if v8 = v9 then (K38 x2 1 (x4 + 1) S) else (K38 x2 0 (x4 + 1) S)))))))))
def jMod_isRow_b38 (K38 : Int32 → Int32 → Int32 → St → Option (Int32 × St)) (x2 : Int32) (x3 : Int32) (x4 : Int32) (S : St) : Option (Int32 × St) :=
  if 3 ≤ x4 then (x_nr x3 (some (x3, S))) else (if ((x2 >>> (x4 &&& 31)) &&& 1) = 1 then (x_ld (S.1 13) 3 x4 (fun v10 => if v10 < 0 then (jMod_isRow_b69 K38 x2 x3 x4 0 S) else (jMod_isRow_b69 K38 x2 x3 x4 1 S))) else (jMod_isRow_b69 K38 x2 x3 x4 0 S))
def jMod_isRow_h38 : Nat → Int32 → Int32 → Int32 → St → Option (Int32 × St)
  | 0, _, _, _, _ => none
  | n + 1, x2, x3, x4, S => jMod_isRow_b38 (jMod_isRow_h38 n) x2 x3 x4 S
def jMod_isRow (x1 : Int32) (x2 : Int32) (S : St) : Option (Int32 × St) :=
  if 81 = 0 then none else (x_gd 3 0 (x_lt (upI S 11 (Int32.toNatClampNeg 0) (x1 / 81)) (fun S1 => if 9 = 0 then none else (if 9 = 0 then none else (x_gd 3 1 (x_lt (upI S1 11 (Int32.toNatClampNeg 1) ((x1 / 9) - (x1 / 9) / 9 * 9)) (fun S2 => if 9 = 0 then none else (x_gd 3 2 (x_lt (upI S2 11 (Int32.toNatClampNeg 2) (x1 - x1 / 9 * 9)) (fun S3 => jMod_isRow_h38 FU x2 1 0 S3))))))))))
def jMod_hasAll_b15 (K4 : Int32 → Int32 → Int32 → St → Option (Int32 × St)) (K15 : Int32 → Int32 → Int32 → Int32 → Int32 → St → Option (Int32 × St)) (x1 : Int32) (x2 : Int32) (x3 : Int32) (x4 : Int32) (x5 : Int32) (S : St) : Option (Int32 × St) :=
  if 3 ≤ x5 then (if x2 = 0 then (K4 x1 0 (x3 + 1) S) else (x_ld (S.1 9) 219 ((5 * x1) + x3) (fun v1 => if v1 < x4 then (K4 x1 0 (x3 + 1) S) else (K4 x1 1 (x3 + 1) S)))) else (x_ld (S.1 11) 3 x5 (fun v2 => if 8 ≤ v2 then (x_lt (x4 + 0) (fun v3 => K15 x1 x2 x3 v3 (x5 + 1) S)) else (x_ld (S.1 11) 3 x5 (fun v4 => x_ld (S.1 5) 80 ((5 * v4) + x3) (fun v5 => x_lt (x4 + v5) (fun v6 => K15 x1 x2 x3 v6 (x5 + 1) S))))))
def jMod_hasAll_h15 (K4 : Int32 → Int32 → Int32 → St → Option (Int32 × St)) : Nat → Int32 → Int32 → Int32 → Int32 → Int32 → St → Option (Int32 × St)
  | 0, _, _, _, _, _, _ => none
  | n + 1, x1, x2, x3, x4, x5, S => jMod_hasAll_b15 K4 (jMod_hasAll_h15 K4 n) x1 x2 x3 x4 x5 S
def jMod_hasAll_b4 (K4 : Int32 → Int32 → Int32 → St → Option (Int32 × St)) (x1 : Int32) (x2 : Int32) (x3 : Int32) (S : St) : Option (Int32 × St) :=
  if 5 ≤ x3 then (x_nr x2 (some (x2, S))) else (jMod_hasAll_h15 K4 FU x1 x2 x3 0 0 S)
def jMod_hasAll_h4 : Nat → Int32 → Int32 → Int32 → St → Option (Int32 × St)
  | 0, _, _, _, _ => none
  | n + 1, x1, x2, x3, S => jMod_hasAll_b4 (jMod_hasAll_h4 n) x1 x2 x3 S
def jMod_hasAll (x1 : Int32) (S : St) : Option (Int32 × St) :=
  jMod_hasAll_h4 FU x1 1 0 S
def jMod_unitsFor_b100 (K6 : Int32 → Int32 → Int32 → Int32 → St → Option (Int32 × St)) (K100 : Int32 → Int32 → Int32 → Int32 → Int32 → St → Option (Int32 × St)) (x1 : Int32) (x2 : Int32) (x3 : Int32) (x4 : Int32) (x6 : Int32) (S : St) : Option (Int32 × St) :=
  if 3 ≤ x6 then (K6 x1 x2 x3 (x4 + 1) S) else (x_ld (S.1 11) 3 x6 (fun v5 => x_gd 3 x6 (x_lt (upI S 12 (Int32.toNatClampNeg x6) v5) (fun S6 => K100 x1 x2 x3 x4 (x6 + 1) S6))))
def jMod_unitsFor_h100 (K6 : Int32 → Int32 → Int32 → Int32 → St → Option (Int32 × St)) : Nat → Int32 → Int32 → Int32 → Int32 → Int32 → St → Option (Int32 × St)
  | 0, _, _, _, _, _, _ => none
  | n + 1, x1, x2, x3, x4, x6, S => jMod_unitsFor_b100 K6 (jMod_unitsFor_h100 K6 n) x1 x2 x3 x4 x6 S
def jMod_unitsFor_b38 (K6 : Int32 → Int32 → Int32 → Int32 → St → Option (Int32 × St)) (K38 : Int32 → Int32 → Int32 → Int32 → Int32 → Int32 → St → Option (Int32 × St)) (x1 : Int32) (x2 : Int32) (x3 : Int32) (x4 : Int32) (x5 : Int32) (x6 : Int32) (S : St) : Option (Int32 × St) :=
  if 3 ≤ x6 then (if x3 = (-9) then (jMod_unitsFor_h100 K6 FU x1 x2 x5 x4 0 S) else (if x3 ≤ x5 then (K6 x1 x2 x3 (x4 + 1) S) else (jMod_unitsFor_h100 K6 FU x1 x2 x5 x4 0 S))) else (x_ld (S.1 11) 3 x6 (fun v7 => if 8 ≤ v7 then (x_lt (x5 + 0) (fun v8 => K38 x1 x2 x3 x4 v8 (x6 + 1) S)) else (x_ld (S.1 11) 3 x6 (fun v9 => x_bd (jMod_unitsOf v9 S) (fun v11 S10 => x_lt (x5 + v11) (fun v12 => K38 x1 x2 x3 x4 v12 (x6 + 1) S10))))))
def jMod_unitsFor_h38 (K6 : Int32 → Int32 → Int32 → Int32 → St → Option (Int32 × St)) : Nat → Int32 → Int32 → Int32 → Int32 → Int32 → Int32 → St → Option (Int32 × St)
  | 0, _, _, _, _, _, _, _ => none
  | n + 1, x1, x2, x3, x4, x5, x6, S => jMod_unitsFor_b38 K6 (jMod_unitsFor_h38 K6 n) x1 x2 x3 x4 x5 x6 S
def jMod_unitsFor_b6 (K6 : Int32 → Int32 → Int32 → Int32 → St → Option (Int32 × St)) (x1 : Int32) (x2 : Int32) (x3 : Int32) (x4 : Int32) (S : St) : Option (Int32 × St) :=
  if 729 ≤ x4 then (some (x3, S)) else (x_bd (jMod_isRow x4 x2 S) (fun v2 S1 => if v2 = 0 then (K6 x1 x2 x3 (x4 + 1) S1) else (x_bd (jMod_hasAll x1 S1) (fun v4 S3 => if v4 = 0 then (K6 x1 x2 x3 (x4 + 1) S3) else (jMod_unitsFor_h38 K6 FU x1 x2 x3 x4 0 0 S3)))))
def jMod_unitsFor_h6 : Nat → Int32 → Int32 → Int32 → Int32 → St → Option (Int32 × St)
  | 0, _, _, _, _, _ => none
  | n + 1, x1, x2, x3, x4, S => jMod_unitsFor_b6 (jMod_unitsFor_h6 n) x1 x2 x3 x4 S
def jMod_unitsFor (x1 : Int32) (x2 : Int32) (S : St) : Option (Int32 × St) :=
  jMod_unitsFor_h6 FU x1 x2 (-9) 0 S
def jMod_says (x1 : Int32) (x2 : Int32) (x3 : Int32) (x4 : Int32) (x5 : Int32) (S : St) : Option (Int32 × St) :=
  x_bd (jMod_isHouse x1 S) (fun v2 S1 => if v2 = 0 then (some ((-1), S1)) else (x_bd (jMod_areWords x2 x3 x4 S1) (fun v4 S3 => if v4 = 0 then (some ((-1), S3)) else (x_bd (jMod_in x5 (-1) 2 S3) (fun v6 S5 => if v6 = 0 then (some ((-1), S5)) else (x_bv (jMod_ask x2 x3 x4 S5) (fun S7 => x_bd (jMod_unitsFor x1 7 S7) (fun v9 S8 => if v9 = (-9) then (some (v9, S8)) else (if 0 ≤ x5 then (x_ld (S8.1 13) 3 x5 (fun v10 => if 0 ≤ v10 then (x_ld (S8.1 12) 3 x5 (fun v11 => some (v11, S8))) else (some ((-5), S8)))) else (some (v9, S8)))))))))))
def jMod_bitsIn_b4 (K4 : Int32 → Int32 → Int32 → St → Option (Int32 × St)) (x0 : Int32) (x1 : Int32) (x2 : Int32) (S : St) : Option (Int32 × St) :=
  if 8 ≤ x2 then (some (x1, S)) else (x_lt (x1 + ((x0 >>> (x2 &&& 31)) &&& 1)) (fun v1 => K4 x0 v1 (x2 + 1) S))
def jMod_bitsIn_h4 : Nat → Int32 → Int32 → Int32 → St → Option (Int32 × St)
  | 0, _, _, _, _ => none
  | n + 1, x0, x1, x2, S => jMod_bitsIn_b4 (jMod_bitsIn_h4 n) x0 x1 x2 S
def jMod_bitsIn (x0 : Int32) (S : St) : Option (Int32 × St) :=
  jMod_bitsIn_h4 FU x0 0 0 S
def jMod_nearest_b55 (K55 : Int32 → Int32 → Int32 → Int32 → St → Option (Int32 × St)) (x1 : Int32) (x5 : Int32) (x6 : Int32) (x7 : Int32) (S : St) : Option (Int32 × St) :=
  if x5 < x7 then (some (x6, S)) else (x_bd (jMod_bitsIn x7 S) (fun v7 S6 => x_bd (jMod_bitsIn x6 S6) (fun v9 S8 => if v7 ≤ v9 then (K55 x1 x5 x6 (x7 + 1) S8) else (x_bd (jMod_unitsFor x1 x7 S8) (fun v11 S10 => if v11 = (-9) then (K55 x1 x5 x6 (x7 + 1) S10) else (K55 x1 x5 x7 (x7 + 1) S10))))))
def jMod_nearest_h55 : Nat → Int32 → Int32 → Int32 → Int32 → St → Option (Int32 × St)
  | 0, _, _, _, _, _ => none
  | n + 1, x1, x5, x6, x7, S => jMod_nearest_b55 (jMod_nearest_h55 n) x1 x5 x6 x7 S
def jMod_nearest (x1 : Int32) (x2 : Int32) (x3 : Int32) (x4 : Int32) (S : St) : Option (Int32 × St) :=
  x_bd (jMod_isHouse x1 S) (fun v2 S1 => if v2 = 0 then (some ((-1), S1)) else (x_bd (jMod_areWords x2 x3 x4 S1) (fun v4 S3 => if v4 = 0 then (some ((-1), S3)) else (x_bv (jMod_ask x2 x3 x4 S3) (fun S5 => if x4 < 0 then (if x3 < 0 then (jMod_nearest_h55 FU x1 1 0 1 S5) else (jMod_nearest_h55 FU x1 3 0 1 S5)) else (jMod_nearest_h55 FU x1 7 0 1 S5))))))
def jMod_isSmoke (x0 : Int32) (S : St) : Option (Int32 × St) :=
  x_bd (jMod_in x0 0 7 S) (fun v2 S1 => x_nr v2 (some (v2, S1)))
def jMod_readAs_b5 (K5 : Int32 → Int32 → Int32 → Int32 → St → Option (Int32 × St)) (x1 : Int32) (x2 : Int32) (x3 : Int32) (x4 : Int32) (S : St) : Option (Int32 × St) :=
  if 3 ≤ x4 then (some (x3, S)) else (if (((x1 ^^^ x2) >>> (x4 &&& 31)) &&& 1) = 1 then (x_ld (S.1 9) 219 30 (fun v3 => x_lt (x3 * v3) (fun v4 => K5 x1 x2 v4 (x4 + 1) S))) else (x_ld (S.1 9) 219 30 (fun v1 => x_lt (x3 * (10 - v1)) (fun v2 => K5 x1 x2 v2 (x4 + 1) S))))
def jMod_readAs_h5 : Nat → Int32 → Int32 → Int32 → Int32 → St → Option (Int32 × St)
  | 0, _, _, _, _, _ => none
  | n + 1, x1, x2, x3, x4, S => jMod_readAs_b5 (jMod_readAs_h5 n) x1 x2 x3 x4 S
def jMod_readAs (x1 : Int32) (x2 : Int32) (S : St) : Option (Int32 × St) :=
  jMod_readAs_h5 FU x1 x2 1 0 S
def jMod_reads (x1 : Int32) (x2 : Int32) (S : St) : Option (Int32 × St) :=
  x_bd (jMod_isSmoke x1 S) (fun v2 S1 => if v2 = 0 then (some ((-1), S1)) else (x_bd (jMod_isSmoke x2 S1) (fun v4 S3 => if v4 = 0 then (some ((-1), S3)) else (x_bd (jMod_readAs x1 x2 S3) (fun v6 S5 => some (v6, S5))))))
def jMod_meant_b2 (K2 : Int32 → Int32 → St → Option (Int32 × St)) (x1 : Int32) (x2 : Int32) (S : St) : Option (Int32 × St) :=
  x_ld (S.1 4) 2 0 (fun v1 => if v1 ≤ x2 then (some ((-9), S)) else (x_ld (S.1 6) 16 x2 (fun v2 => if v2 = x1 then (x_ld (S.1 7) 16 x2 (fun v3 => some (v3, S))) else (K2 x1 (x2 + 1) S))))
def jMod_meant_h2 : Nat → Int32 → Int32 → St → Option (Int32 × St)
  | 0, _, _, _ => none
  | n + 1, x1, x2, S => jMod_meant_b2 (jMod_meant_h2 n) x1 x2 S
def jMod_meant (x1 : Int32) (S : St) : Option (Int32 × St) :=
  jMod_meant_h2 FU x1 0 S
def jMod_means (x1 : Int32) (S : St) : Option (Int32 × St) :=
  x_bd (jMod_isSmoke x1 S) (fun v2 S1 => if v2 = 0 then (some ((-1), S1)) else (x_bd (jMod_meant x1 S1) (fun v4 S3 => some (v4, S3))))
def jMod_leastOf_b2 (K2 : Int32 → Int32 → St → Option (Int32 × St)) (x1 : Int32) (x2 : Int32) (S : St) : Option (Int32 × St) :=
  x_ld (S.1 4) 2 0 (fun v1 => if v1 ≤ x2 then (some ((-9), S)) else (x_ld (S.1 7) 16 x2 (fun v2 => if v2 = x1 then (some (x2, S)) else (K2 x1 (x2 + 1) S))))
def jMod_leastOf_h2 : Nat → Int32 → Int32 → St → Option (Int32 × St)
  | 0, _, _, _ => none
  | n + 1, x1, x2, S => jMod_leastOf_b2 (jMod_leastOf_h2 n) x1 x2 S
def jMod_leastOf (x1 : Int32) (S : St) : Option (Int32 × St) :=
  jMod_leastOf_h2 FU x1 0 S
def jMod_common_b6 (K6 : Int64 → Int64 → St → Option (Int64 × St)) (y4 : Int64) (y6 : Int64) (S : St) : Option (Int64 × St) :=
  if (lg_cmp y6 0) = 0 then (some (y4, S)) else (if y6 = 0 then none else (x_lt (y4 - y4 / y6 * y6) (fun v1 => K6 y6 v1 S)))
def jMod_common_h6 : Nat → Int64 → Int64 → St → Option (Int64 × St)
  | 0, _, _, _ => none
  | n + 1, y4, y6, S => jMod_common_b6 (jMod_common_h6 n) y4 y6 S
def jMod_common (y0 : Int64) (y2 : Int64) (S : St) : Option (Int64 × St) :=
  jMod_common_h6 FU y0 y2 S
def jMod_chain_b221 (K85 : Int32 → Int32 → Int32 → Int64 → Int32 → St → Option (Int64 × St)) (K221 : Int32 → Int32 → Int32 → Int64 → Int32 → Int32 → St → Option (Int64 × St)) (x1 : Int32) (x2 : Int32) (x3 : Int32) (y4 : Int64) (x6 : Int32) (x7 : Int32) (S : St) : Option (Int64 × St) :=
  if 8 ≤ x7 then (K85 x1 x2 x3 y4 (x6 + 1) S) else (x_ld (S.2 15) 8 x7 (fun v14 => x_gd 8 x7 (x_lt (upL S 14 (Int32.toNatClampNeg x7) v14) (fun S15 => K221 x1 x2 x3 y4 x6 (x7 + 1) S15))))
def jMod_chain_h221 (K85 : Int32 → Int32 → Int32 → Int64 → Int32 → St → Option (Int64 × St)) : Nat → Int32 → Int32 → Int32 → Int64 → Int32 → Int32 → St → Option (Int64 × St)
  | 0, _, _, _, _, _, _, _ => none
  | n + 1, x1, x2, x3, y4, x6, x7, S => jMod_chain_b221 K85 (jMod_chain_h221 K85 n) x1 x2 x3 y4 x6 x7 S
def jMod_chain_b136 (K85 : Int32 → Int32 → Int32 → Int64 → Int32 → St → Option (Int64 × St)) (K126 : Int32 → Int32 → Int32 → Int64 → Int32 → Int32 → St → Option (Int64 × St)) (K136 : Int32 → Int32 → Int32 → Int64 → Int32 → Int32 → Int32 → St → Option (Int64 × St)) (x1 : Int32) (x2 : Int32) (x3 : Int32) (y4 : Int64) (x6 : Int32) (x7 : Int32) (x8 : Int32) (S : St) : Option (Int64 × St) :=
  if 8 ≤ x8 then (K126 x1 x2 x3 y4 x6 (x7 + 1) S) else (x_ld (S.2 14) 8 x7 (fun v16 => if (lg_cmp v16 0) ≤ 0 then (K126 x1 x2 x3 y4 x6 (x7 + 1) S) else (x_bd (jMod_meant x8 S) (fun v18 S17 => if v18 = (-9) then (K136 x1 x2 x3 y4 x6 x7 (x8 + 1) S17) else (x_ld (S17.2 15) 8 v18 (fun v19 => x_ld (S17.2 14) 8 x7 (fun v20 => x_bd (jMod_leastOf x7 S17) (fun v22 S21 => x_ld (S21.1 6) 16 v22 (fun v23 => x_bd (jMod_readAs v23 x8 S21) (fun v25 S24 => x_gd 8 v18 (x_lt (upL S24 15 (Int32.toNatClampNeg v18) (v19 + (v20 * (Int32.toInt64 v25)))) (fun S26 => K136 x1 x2 x3 y4 x6 x7 (x8 + 1) S26))))))))))))
def jMod_chain_h136 (K85 : Int32 → Int32 → Int32 → Int64 → Int32 → St → Option (Int64 × St)) (K126 : Int32 → Int32 → Int32 → Int64 → Int32 → Int32 → St → Option (Int64 × St)) : Nat → Int32 → Int32 → Int32 → Int64 → Int32 → Int32 → Int32 → St → Option (Int64 × St)
  | 0, _, _, _, _, _, _, _, _ => none
  | n + 1, x1, x2, x3, y4, x6, x7, x8, S => jMod_chain_b136 K85 K126 (jMod_chain_h136 K85 K126 n) x1 x2 x3 y4 x6 x7 x8 S
def jMod_chain_b126 (K85 : Int32 → Int32 → Int32 → Int64 → Int32 → St → Option (Int64 × St)) (K126 : Int32 → Int32 → Int32 → Int64 → Int32 → Int32 → St → Option (Int64 × St)) (x1 : Int32) (x2 : Int32) (x3 : Int32) (y4 : Int64) (x6 : Int32) (x7 : Int32) (S : St) : Option (Int64 × St) :=
  if 8 ≤ x7 then (jMod_chain_h221 K85 FU x1 x2 x3 y4 x6 0 S) else (jMod_chain_h136 K85 K126 FU x1 x2 x3 y4 x6 x7 0 S)
def jMod_chain_h126 (K85 : Int32 → Int32 → Int32 → Int64 → Int32 → St → Option (Int64 × St)) : Nat → Int32 → Int32 → Int32 → Int64 → Int32 → Int32 → St → Option (Int64 × St)
  | 0, _, _, _, _, _, _, _ => none
  | n + 1, x1, x2, x3, y4, x6, x7, S => jMod_chain_b126 K85 (jMod_chain_h126 K85 n) x1 x2 x3 y4 x6 x7 S
def jMod_chain_b102 (K85 : Int32 → Int32 → Int32 → Int64 → Int32 → St → Option (Int64 × St)) (K102 : Int32 → Int32 → Int32 → Int64 → Int32 → Int32 → St → Option (Int64 × St)) (x1 : Int32) (x2 : Int32) (x3 : Int32) (y4 : Int64) (x6 : Int32) (x7 : Int32) (S : St) : Option (Int64 × St) :=
  if 8 ≤ x7 then (jMod_chain_h126 K85 FU x1 x2 x3 y4 x6 0 S) else (x_gd 8 x7 (x_lt (upL S 15 (Int32.toNatClampNeg x7) 0) (fun S27 => K102 x1 x2 x3 y4 x6 (x7 + 1) S27)))
def jMod_chain_h102 (K85 : Int32 → Int32 → Int32 → Int64 → Int32 → St → Option (Int64 × St)) : Nat → Int32 → Int32 → Int32 → Int64 → Int32 → Int32 → St → Option (Int64 × St)
  | 0, _, _, _, _, _, _, _ => none
  | n + 1, x1, x2, x3, y4, x6, x7, S => jMod_chain_b102 K85 (jMod_chain_h102 K85 n) x1 x2 x3 y4 x6 x7 S
def jMod_chain_b85 (K85 : Int32 → Int32 → Int32 → Int64 → Int32 → St → Option (Int64 × St)) (x1 : Int32) (x2 : Int32) (x3 : Int32) (y4 : Int64) (x6 : Int32) (S : St) : Option (Int64 × St) :=
  if x2 ≤ x6 then (x_ld (S.2 14) 8 x1 (fun v9 => x_bd (jMod_common v9 y4 S) (fun v11 S10 => if x3 = 0 then (x_ld (S10.2 14) 8 x1 (fun v12 => if v11 = 0 then none else (some (v12 / v11, S10)))) else (if v11 = 0 then none else (some (y4 / v11, S10)))))) else (x_lt (y4 * 1000) (fun v13 => jMod_chain_h102 K85 FU x1 x2 x3 v13 x6 0 S))
def jMod_chain_h85 : Nat → Int32 → Int32 → Int32 → Int64 → Int32 → St → Option (Int64 × St)
  | 0, _, _, _, _, _, _ => none
  | n + 1, x1, x2, x3, y4, x6, S => jMod_chain_b85 (jMod_chain_h85 n) x1 x2 x3 y4 x6 S
def jMod_chain_b75 (K51 : Int32 → Int32 → Int32 → Int64 → Int32 → St → Option (Int64 × St)) (x1 : Int32) (x2 : Int32) (x3 : Int32) (y4 : Int64) (x6 : Int32) (t0 : Int64) (s1 : Int32) (S : St) : Option (Int64 × St) :=
  x_gd 8 s1 (x_lt (upL S 14 (Int32.toNatClampNeg s1) t0) (fun S28 => K51 x1 x2 x3 y4 (x6 + 1) S28))
def jMod_chain_b51 (K51 : Int32 → Int32 → Int32 → Int64 → Int32 → St → Option (Int64 × St)) (x1 : Int32) (x2 : Int32) (x3 : Int32) (y4 : Int64) (x6 : Int32) (S : St) : Option (Int64 × St) :=
  if 8 ≤ x6 then (jMod_chain_h85 FU x1 x2 x3 y4 0 S) else (if x6 = x1 then (jMod_chain_b75 K51 x1 x2 x3 y4 x6 1 x6 S) else (jMod_chain_b75 K51 x1 x2 x3 y4 x6 0 x6 S))
def jMod_chain_h51 : Nat → Int32 → Int32 → Int32 → Int64 → Int32 → St → Option (Int64 × St)
  | 0, _, _, _, _, _, _ => none
  | n + 1, x1, x2, x3, y4, x6, S => jMod_chain_b51 (jMod_chain_h51 n) x1 x2 x3 y4 x6 S
def jMod_chain (x1 : Int32) (x2 : Int32) (x3 : Int32) (S : St) : Option (Int64 × St) :=
  x_bd (jMod_in x1 0 7 S) (fun v2 S1 => if v2 = 0 then (some ((-1), S1)) else (x_bd (jMod_in x2 1 4 S1) (fun v4 S3 => if v4 = 0 then (some ((-1), S3)) else (x_bd (jMod_in x3 0 1 S3) (fun v6 S5 => if v6 = 0 then (some ((-1), S5)) else (x_bd (jMod_leastOf x1 S5) (fun v8 S7 => if v8 = (-9) then (some (Int32.toInt64 x3, S7)) else (jMod_chain_h51 FU x1 x2 x3 1 0 S7))))))))
def jMod_who_b87 (K35 : Int32 → Int32 → Int32 → Int32 → Int32 → Int32 → St → Option (Int32 × St)) (K49 : Int32 → Int32 → Int32 → Int32 → Int32 → Int32 → Int32 → St → Option (Int32 × St)) (x1 : Int32) (x2 : Int32) (x3 : Int32) (x4 : Int32) (x5 : Int32) (x6 : Int32) (x7 : Int32) (s0 : Int32) (S : St) : Option (Int32 × St) :=
  if x6 = x2 then (x_lt (x4 + s0) (fun v16 => x_lt (x5 + s0) (fun v17 => K49 x1 x2 x3 v16 v17 x6 (x7 + 1) S))) else (x_lt (x4 + 0) (fun v14 => x_lt (x5 + s0) (fun v15 => K49 x1 x2 x3 v14 v15 x6 (x7 + 1) S)))
def jMod_who_b49 (K35 : Int32 → Int32 → Int32 → Int32 → Int32 → Int32 → St → Option (Int32 × St)) (K49 : Int32 → Int32 → Int32 → Int32 → Int32 → Int32 → Int32 → St → Option (Int32 × St)) (x1 : Int32) (x2 : Int32) (x3 : Int32) (x4 : Int32) (x5 : Int32) (x6 : Int32) (x7 : Int32) (S : St) : Option (Int32 × St) :=
  x_ld (S.1 4) 2 0 (fun v11 => if v11 ≤ x7 then (K35 x1 x2 x3 x4 x5 (x6 + 1) S) else (x_bd (jMod_canCook x6 x7 S) (fun v13 S12 => if v13 = 0 then (jMod_who_b87 K35 K49 x1 x2 x3 x4 x5 x6 x7 0 S12) else (x_ld (S12.1 6) 16 x7 (fun v18 => x_bd (jMod_readAs v18 x1 S12) (fun v20 S19 => jMod_who_b87 K35 K49 x1 x2 x3 x4 x5 x6 x7 v20 S19))))))
def jMod_who_h49 (K35 : Int32 → Int32 → Int32 → Int32 → Int32 → Int32 → St → Option (Int32 × St)) : Nat → Int32 → Int32 → Int32 → Int32 → Int32 → Int32 → Int32 → St → Option (Int32 × St)
  | 0, _, _, _, _, _, _, _, _ => none
  | n + 1, x1, x2, x3, x4, x5, x6, x7, S => jMod_who_b49 K35 (jMod_who_h49 K35 n) x1 x2 x3 x4 x5 x6 x7 S
def jMod_who_b35 (K35 : Int32 → Int32 → Int32 → Int32 → Int32 → Int32 → St → Option (Int32 × St)) (x1 : Int32) (x2 : Int32) (x3 : Int32) (x4 : Int32) (x5 : Int32) (x6 : Int32) (S : St) : Option (Int32 × St) :=
  x_ld (S.1 2) 2 0 (fun v7 => if v7 ≤ x6 then (if x5 = 0 then (some ((-2), S)) else (x_bd (jMod_common (Int32.toInt64 x4) (Int32.toInt64 x5) S) (fun v9 S8 => x_lt (Int64.toInt32 v9) (fun v10 => if x3 = 0 then (if v10 = 0 then none else (some (x4 / v10, S8))) else (if v10 = 0 then none else (some (x5 / v10, S8))))))) else (jMod_who_h49 K35 FU x1 x2 x3 x4 x5 x6 0 S))
def jMod_who_h35 : Nat → Int32 → Int32 → Int32 → Int32 → Int32 → Int32 → St → Option (Int32 × St)
  | 0, _, _, _, _, _, _, _ => none
  | n + 1, x1, x2, x3, x4, x5, x6, S => jMod_who_b35 (jMod_who_h35 n) x1 x2 x3 x4 x5 x6 S
def jMod_who (x1 : Int32) (x2 : Int32) (x3 : Int32) (S : St) : Option (Int32 × St) :=
  x_bd (jMod_isSmoke x1 S) (fun v2 S1 => if v2 = 0 then (some ((-1), S1)) else (x_bd (jMod_isHouse x2 S1) (fun v4 S3 => if v4 = 0 then (some ((-1), S3)) else (x_bd (jMod_in x3 0 1 S3) (fun v6 S5 => if v6 = 0 then (some ((-1), S5)) else (jMod_who_h35 FU x1 x2 x3 0 0 0 S5))))))
def jMod_nextSupper_b43 (K5 : Int32 → Int32 → St → Option (Int32 × St)) (K43 : Int32 → Int32 → Int32 → Int32 → St → Option (Int32 × St)) (x1 : Int32) (x2 : Int32) (x3 : Int32) (x4 : Int32) (S : St) : Option (Int32 × St) :=
  if 5 ≤ x4 then (if x3 = 0 then (K5 x1 (x2 + 1) S) else (K5 x2 (x2 + 1) S)) else (if x3 = 0 then (K43 x1 x2 0 (x4 + 1) S) else (x_ld (S.1 16) 5 x4 (fun v2 => x_ld (S.1 5) 80 ((5 * x2) + x4) (fun v3 => if v2 < v3 then (K43 x1 x2 0 (x4 + 1) S) else (K43 x1 x2 1 (x4 + 1) S)))))
def jMod_nextSupper_h43 (K5 : Int32 → Int32 → St → Option (Int32 × St)) : Nat → Int32 → Int32 → Int32 → Int32 → St → Option (Int32 × St)
  | 0, _, _, _, _, _ => none
  | n + 1, x1, x2, x3, x4, S => jMod_nextSupper_b43 K5 (jMod_nextSupper_h43 K5 n) x1 x2 x3 x4 S
def jMod_nextSupper_b5 (K5 : Int32 → Int32 → St → Option (Int32 × St)) (x1 : Int32) (x2 : Int32) (S : St) : Option (Int32 × St) :=
  x_ld (S.1 4) 2 0 (fun v1 => if v1 ≤ x2 then (some (x1, S)) else (if x1 = (-9) then (jMod_nextSupper_h43 K5 FU x1 x2 1 0 S) else (x_bd (jMod_unitsOf x2 S) (fun v5 S4 => x_bd (jMod_unitsOf x1 S4) (fun v7 S6 => if v7 ≤ v5 then (jMod_nextSupper_h43 K5 FU x1 x2 0 0 S6) else (jMod_nextSupper_h43 K5 FU x1 x2 1 0 S6))))))
def jMod_nextSupper_h5 : Nat → Int32 → Int32 → St → Option (Int32 × St)
  | 0, _, _, _ => none
  | n + 1, x1, x2, S => jMod_nextSupper_b5 (jMod_nextSupper_h5 n) x1 x2 S
def jMod_nextSupper (S : St) : Option (Int32 × St) :=
  jMod_nextSupper_h5 FU (-9) 0 S
def jMod_days_b61 (K46 : Int32 → Int32 → St → Option (Int32 × St)) (K61 : Int32 → Int32 → Int32 → St → Option (Int32 × St)) (x2 : Int32) (x3 : Int32) (x4 : Int32) (S : St) : Option (Int32 × St) :=
  if 5 ≤ x4 then (x_bd (jMod_nextSupper S) (fun v6 S5 => K46 (x2 + 1) v6 S5)) else (x_ld (S.1 16) 5 x4 (fun v7 => x_ld (S.1 5) 80 ((5 * x3) + x4) (fun v8 => x_gd 5 x4 (x_lt (upI S 16 (Int32.toNatClampNeg x4) (v7 - v8)) (fun S9 => K61 x2 x3 (x4 + 1) S9)))))
def jMod_days_h61 (K46 : Int32 → Int32 → St → Option (Int32 × St)) : Nat → Int32 → Int32 → Int32 → St → Option (Int32 × St)
  | 0, _, _, _, _ => none
  | n + 1, x2, x3, x4, S => jMod_days_b61 K46 (jMod_days_h61 K46 n) x2 x3 x4 S
def jMod_days_b46 (K46 : Int32 → Int32 → St → Option (Int32 × St)) (x2 : Int32) (x3 : Int32) (S : St) : Option (Int32 × St) :=
  if x3 = (-9) then (some (x2, S)) else (if 30 ≤ x2 then (some (x2, S)) else (jMod_days_h61 K46 FU x2 x3 0 S))
def jMod_days_h46 : Nat → Int32 → Int32 → St → Option (Int32 × St)
  | 0, _, _, _ => none
  | n + 1, x2, x3, S => jMod_days_b46 (jMod_days_h46 n) x2 x3 S
def jMod_days_b12 (K12 : Int32 → Int32 → St → Option (Int32 × St)) (x1 : Int32) (x2 : Int32) (S : St) : Option (Int32 × St) :=
  if 5 ≤ x2 then (x_bd (jMod_nextSupper S) (fun v4 S3 => jMod_days_h46 FU 0 v4 S3)) else (x_ld (S.1 9) 219 ((5 * x1) + x2) (fun v10 => x_gd 5 x2 (x_lt (upI S 16 (Int32.toNatClampNeg x2) v10) (fun S11 => K12 x1 (x2 + 1) S11))))
def jMod_days_h12 : Nat → Int32 → Int32 → St → Option (Int32 × St)
  | 0, _, _, _ => none
  | n + 1, x1, x2, S => jMod_days_b12 (jMod_days_h12 n) x1 x2 S
def jMod_days (x1 : Int32) (S : St) : Option (Int32 × St) :=
  x_bd (jMod_isHouse x1 S) (fun v2 S1 => if v2 = 0 then (some ((-1), S1)) else (jMod_days_h12 FU x1 0 S1))
def jMod_saidBy_b77 (K6 : Int32 → Int32 → Int32 → Int32 → Int32 → St → Option (Int32 × St)) (K77 : Int32 → Int32 → Int32 → Int32 → Int32 → Int32 → St → Option (Int32 × St)) (x1 : Int32) (x2 : Int32) (x3 : Int32) (x4 : Int32) (x5 : Int32) (x6 : Int32) (S : St) : Option (Int32 × St) :=
  if x5 ≤ x6 then (K6 x1 x2 x3 x4 (x5 + 1) S) else (if ((x1 >>> (x6 &&& 31)) &&& 1) = 1 then (x_ld (S.1 6) 16 x5 (fun v6 => x_ld (S.1 6) 16 x6 (fun v7 => x_bd (jMod_bitsIn (v6 ^^^ v7) S) (fun v9 S8 => if x3 ≤ v9 then (K77 x1 x2 x3 x4 x5 (x6 + 1) S8) else (some ((-9), S8)))))) else (K77 x1 x2 x3 x4 x5 (x6 + 1) S))
def jMod_saidBy_h77 (K6 : Int32 → Int32 → Int32 → Int32 → Int32 → St → Option (Int32 × St)) : Nat → Int32 → Int32 → Int32 → Int32 → Int32 → Int32 → St → Option (Int32 × St)
  | 0, _, _, _, _, _, _, _ => none
  | n + 1, x1, x2, x3, x4, x5, x6, S => jMod_saidBy_b77 K6 (jMod_saidBy_h77 K6 n) x1 x2 x3 x4 x5 x6 S
def jMod_saidBy_b6 (K6 : Int32 → Int32 → Int32 → Int32 → Int32 → St → Option (Int32 × St)) (x1 : Int32) (x2 : Int32) (x3 : Int32) (x4 : Int32) (x5 : Int32) (S : St) : Option (Int32 × St) :=
  x_ld (S.1 4) 2 0 (fun v1 => if v1 ≤ x5 then (some (x4, S)) else (if ((x1 >>> (x5 &&& 31)) &&& 1) = 1 then (x_ld (S.1 7) 16 x5 (fun v2 => if ((x2 >>> (v2 &&& 31)) &&& 1) = 0 then (some ((-9), S)) else (x_ld (S.1 7) 16 x5 (fun v3 => if ((x4 >>> (v3 &&& 31)) &&& 1) = 1 then (some ((-9), S)) else (x_ld (S.1 7) 16 x5 (fun v4 => x_lt (x4 ||| (1 <<< (v4 &&& 31))) (fun v5 => jMod_saidBy_h77 K6 FU x1 x2 x3 v5 x5 0 S))))))) else (K6 x1 x2 x3 x4 (x5 + 1) S)))
def jMod_saidBy_h6 : Nat → Int32 → Int32 → Int32 → Int32 → Int32 → St → Option (Int32 × St)
  | 0, _, _, _, _, _, _ => none
  | n + 1, x1, x2, x3, x4, x5, S => jMod_saidBy_b6 (jMod_saidBy_h6 n) x1 x2 x3 x4 x5 S
def jMod_saidBy (x1 : Int32) (x2 : Int32) (x3 : Int32) (S : St) : Option (Int32 × St) :=
  jMod_saidBy_h6 FU x1 x2 x3 0 0 S
def jMod_code_b78 (K50 : Int32 → Int32 → Int32 → Int32 → Int32 → Int32 → St → Option (Int32 × St)) (x1 : Int32) (x2 : Int32) (x3 : Int32) (x5 : Int32) (x6 : Int32) (x7 : Int32) (s0 : Int32) (S : St) : Option (Int32 × St) :=
  if x7 = (-9) then (K50 x1 x2 x3 s0 x5 (x6 + (-1)) S) else (x_bd (jMod_bitsIn x6 S) (fun v12 S11 => if v12 ≤ x5 then (K50 x1 x2 x3 s0 x5 (x6 + (-1)) S11) else (x_bd (jMod_bitsIn x6 S11) (fun v14 S13 => K50 x1 x2 x3 s0 v14 (x6 + (-1)) S13))))
def jMod_code_b50 (K50 : Int32 → Int32 → Int32 → Int32 → Int32 → Int32 → St → Option (Int32 × St)) (x1 : Int32) (x2 : Int32) (x3 : Int32) (x4 : Int32) (x5 : Int32) (x6 : Int32) (S : St) : Option (Int32 × St) :=
  if x6 < 0 then (if x3 = 0 then (some (x4, S)) else (some (x5, S))) else (x_bd (jMod_saidBy x6 x1 x2 S) (fun v10 S9 => if v10 = x1 then (jMod_code_b78 K50 x1 x2 x3 x5 x6 v10 x6 S9) else (jMod_code_b78 K50 x1 x2 x3 x5 x6 v10 x4 S9)))
def jMod_code_h50 : Nat → Int32 → Int32 → Int32 → Int32 → Int32 → Int32 → St → Option (Int32 × St)
  | 0, _, _, _, _, _, _, _ => none
  | n + 1, x1, x2, x3, x4, x5, x6, S => jMod_code_b50 (jMod_code_h50 n) x1 x2 x3 x4 x5 x6 S
def jMod_code (x1 : Int32) (x2 : Int32) (x3 : Int32) (S : St) : Option (Int32 × St) :=
  x_bd (jMod_in x1 0 255 S) (fun v2 S1 => if v2 = 0 then (some ((-1), S1)) else (x_bd (jMod_in x2 1 3 S1) (fun v4 S3 => if v4 = 0 then (some ((-1), S3)) else (x_bd (jMod_in x3 0 1 S3) (fun v6 S5 => if v6 = 0 then (some ((-1), S5)) else (x_ld (S5.1 4) 2 0 (fun v7 => x_lt ((1 <<< (v7 &&& 31)) - 1) (fun v8 => jMod_code_h50 FU x1 x2 x3 (-9) 0 v8 S5))))))))
def jMod_feast_b71 (K37 : Int32 → Int32 → Int32 → Int32 → Int32 → St → Option (Int32 × St)) (x2 : Int32) (x3 : Int32) (x5 : Int32) (x6 : Int32) (s0 : Int32) (s1 : Int32) (S : St) : Option (Int32 × St) :=
  x_lt (s1 ||| s0) (fun v8 => if ((x3 >>> (x6 &&& 31)) &&& 1) = 1 then (x_ld (S.1 7) 16 x6 (fun v10 => x_lt (x5 ||| (1 <<< (v10 &&& 31))) (fun v11 => K37 x2 x3 v8 v11 (x6 + 1) S))) else (x_lt (x5 ||| 0) (fun v9 => K37 x2 x3 v8 v9 (x6 + 1) S)))
def jMod_feast_b37 (K37 : Int32 → Int32 → Int32 → Int32 → Int32 → St → Option (Int32 × St)) (x2 : Int32) (x3 : Int32) (x4 : Int32) (x5 : Int32) (x6 : Int32) (S : St) : Option (Int32 × St) :=
  x_ld (S.1 4) 2 0 (fun v5 => if v5 ≤ x6 then (x_bd (jMod_meant x4 S) (fun v7 S6 => if x2 = 0 then (some (x4, S6)) else (if x2 = 1 then (some (v7, S6)) else (if v7 = (-9) then (some (v7, S6)) else (some (1 - ((x5 >>> (v7 &&& 31)) &&& 1), S6)))))) else (if ((x3 >>> (x6 &&& 31)) &&& 1) = 1 then (x_ld (S.1 6) 16 x6 (fun v12 => jMod_feast_b71 K37 x2 x3 x5 x6 v12 x4 S)) else (jMod_feast_b71 K37 x2 x3 x5 x6 0 x4 S)))
def jMod_feast_h37 : Nat → Int32 → Int32 → Int32 → Int32 → Int32 → St → Option (Int32 × St)
  | 0, _, _, _, _, _, _ => none
  | n + 1, x2, x3, x4, x5, x6, S => jMod_feast_b37 (jMod_feast_h37 n) x2 x3 x4 x5 x6 S
def jMod_feast (x1 : Int32) (x2 : Int32) (S : St) : Option (Int32 × St) :=
  x_ld (S.1 4) 2 0 (fun v1 => x_lt (x1 &&& ((1 <<< (v1 &&& 31)) - 1)) (fun v2 => if v2 = 0 then (some ((-1), S)) else (x_bd (jMod_in x2 0 2 S) (fun v4 S3 => if v4 = 0 then (some ((-1), S3)) else (jMod_feast_h37 FU x2 v2 0 0 0 S3)))))
def jMod_silent_b25 (K25 : Int32 → Int32 → Int32 → St → Option (Int32 × St)) (x1 : Int32) (x2 : Int32) (x3 : Int32) (S : St) : Option (Int32 × St) :=
  x_ld (S.1 9) 219 32 (fun v5 => if v5 ≤ x3 then (some (x2, S)) else (x_ld (S.1 9) 219 32 (fun v6 => if x3 < (v6 - x1) then (x_lt (x2 &&& (-1)) (fun v7 => K25 x1 v7 (x3 + 1) S)) else (x_ld (S.1 9) 219 (33 + (2 * x3)) (fun v8 => x_lt (x2 &&& ((1 <<< (v8 &&& 31)) ^^^ (-1))) (fun v9 => K25 x1 v9 (x3 + 1) S))))))
def jMod_silent_h25 : Nat → Int32 → Int32 → Int32 → St → Option (Int32 × St)
  | 0, _, _, _, _ => none
  | n + 1, x1, x2, x3, S => jMod_silent_b25 (jMod_silent_h25 n) x1 x2 x3 S
def jMod_silent (x1 : Int32) (S : St) : Option (Int32 × St) :=
  x_bd (jMod_in x1 1 20 S) (fun v2 S1 => if v2 = 0 then (some ((-1), S1)) else (x_ld (S1.1 2) 2 0 (fun v3 => x_lt ((1 <<< (v3 &&& 31)) - 1) (fun v4 => jMod_silent_h25 FU x1 v4 0 S1))))
def jMod_drawn_b13 (K13 : Int32 → Int32 → St → Option (Int32 × St)) (x2 : Int32) (x3 : Int32) (S : St) : Option (Int32 × St) :=
  if 3 ≤ x3 then (some (x2, S)) else (x_ld (S.1 9) 219 31 (fun v3 => x_gd 219 31 (x_lt (upI S 9 (Int32.toNatClampNeg 31) ((v3 * 1103515245) + 12345)) (fun S4 => x_ld (S4.1 9) 219 31 (fun v5 => if 10 = 0 then none else (x_ld (S4.1 9) 219 30 (fun v6 => if v6 ≤ ((x_ush v5 16) - (x_ush v5 16) / 10 * 10) then (x_lt (x2 ^^^ 0) (fun v7 => K13 v7 (x3 + 1) S4)) else (x_lt (x2 ^^^ (1 <<< (x3 &&& 31))) (fun v8 => K13 v8 (x3 + 1) S4)))))))))
def jMod_drawn_h13 : Nat → Int32 → Int32 → St → Option (Int32 × St)
  | 0, _, _, _ => none
  | n + 1, x2, x3, S => jMod_drawn_b13 (jMod_drawn_h13 n) x2 x3 S
def jMod_drawn (x1 : Int32) (S : St) : Option (Int32 × St) :=
  x_bd (jMod_isSmoke x1 S) (fun v2 S1 => if v2 = 0 then (some ((-1), S1)) else (jMod_drawn_h13 FU x1 0 S1))
def jMod_lot (x1 : Int32) (S : St) : Option (Int32 × St) :=
  x_ld (S.1 9) 219 31 (fun v1 => x_gd 219 31 (x_lt (upI S 9 (Int32.toNatClampNeg 31) x1) (fun S2 => some (v1, S2))))
def jMod_mark (x1 : Int32) (x2 : Int32) (S : St) : Option (Int32 × St) :=
  x_bd (jMod_in x1 0 5 S) (fun v2 S1 => if v2 = 0 then (some ((-1000000), S1)) else (x_bd (jMod_isDish x2 S1) (fun v4 S3 => if v4 = 0 then (some ((-1000000), S3)) else (x_bd (jMod_unitsOf x2 S3) (fun v6 S5 => if x1 = 0 then (x_lt (upL S5 0 0 ((S5.2 0 0) + 1)) (fun S7 => some (v6, S7))) else (if x1 = 1 then (x_lt (upL S5 0 0 ((S5.2 0 0) + 11)) (fun S8 => some (2 * v6, S8))) else (if x1 = 2 then (x_lt (upL S5 0 0 ((S5.2 0 0) + 101)) (fun S9 => x_ld (S9.1 6) 16 x2 (fun v10 => some (v6 + v10, S9)))) else (if x1 = 3 then (x_lt (upL S5 0 0 ((S5.2 0 0) + 1011)) (fun S11 => some ((2 * v6) + x2, S11))) else (if x1 = 4 then (x_lt (upL S5 0 0 ((S5.2 0 0) + 10101)) (fun S12 => x_ld (S12.1 6) 16 x2 (fun v13 => x_ld (S12.1 7) 16 x2 (fun v14 => some ((v6 + v13) - v14, S12))))) else (x_lt (upL S5 0 0 ((S5.2 0 0) + 100001)) (fun S15 => x_ld (S15.1 9) 219 32 (fun v16 => some (v6 + v16, S15)))))))))))))
def jMod_copy_b2 (K2 : Int32 → Int32 → Int32 → St → Option (St)) (x1 : Int32) (x2 : Int32) (x3 : Int32) (S : St) : Option (St) :=
  if 73 ≤ x3 then (some S) else (x_ld (S.1 9) 219 (x1 + x3) (fun v1 => x_gd 219 (x2 + x3) (x_lt (upI S 9 (Int32.toNatClampNeg (x2 + x3)) v1) (fun S2 => K2 x1 x2 (x3 + 1) S2))))
def jMod_copy_h2 : Nat → Int32 → Int32 → Int32 → St → Option (St)
  | 0, _, _, _, _ => none
  | n + 1, x1, x2, x3, S => jMod_copy_b2 (jMod_copy_h2 n) x1 x2 x3 S
def jMod_copy (x1 : Int32) (x2 : Int32) (S : St) : Option (St) :=
  jMod_copy_h2 FU x1 x2 0 S
def jMod_keep (x1 : Int32) (S : St) : Option (Int32 × St) :=
  x_bd (jMod_in x1 0 1 S) (fun v2 S1 => if v2 = 0 then (some ((-1), S1)) else (x_bv (jMod_copy 0 (73 * (1 + x1)) S1) (fun S3 => x_gd 2 x1 (x_lt (upI S3 10 (Int32.toNatClampNeg x1) (vp_nar .boolean 1)) (fun S4 => x_ld (S4.1 9) 219 32 (fun v5 => some (v5, S4)))))))
def jMod_back (x1 : Int32) (S : St) : Option (Int32 × St) :=
  x_bd (jMod_in x1 0 1 S) (fun v2 S1 => if v2 = 0 then (some ((-1), S1)) else (x_ld (S1.1 10) 2 x1 (fun v3 => if v3 = 0 then (some ((-2), S1)) else (x_bv (jMod_copy (73 * (1 + x1)) 0 S1) (fun S4 => x_ld (S4.1 9) 219 32 (fun v5 => some (v5, S4)))))))
def jMod_count (x1 : Int32) (S : St) : Option (Int32 × St) :=
  if x1 = 0 then (x_ld (S.1 2) 2 0 (fun v4 => some (v4, S))) else (if x1 = 1 then (x_ld (S.1 4) 2 0 (fun v3 => some (v3, S))) else (if x1 = 2 then (x_ld (S.1 9) 219 32 (fun v2 => some (v2, S))) else (if x1 = 3 then (x_ld (S.1 9) 219 30 (fun v1 => some (v1, S))) else (if x1 = 4 then (some (S.1 0 2, S)) else (some ((-1), S))))))
def jMod_trace (S : St) : Option (Int64 × St) :=
  some (S.2 0 0, S)
end
