-- ===== PART A: goes FIRST, ahead of the names: the tables' words, and 'selects' of the private methods out of them =====
/-- a private method of a class that the tables say can be made, by its rows of tables_1 -/
def lw_okq (q : MethodName × Nat) : Prop := (q.1.cls ≠ "java/lang/invoke/MethodHandle" ∧ q.1.cls ≠ "java/lang/invoke/VarHandle") ∧ Cond.instantiable q.1.cls q.2 ∈ tables_1 ∧ Cond.privateMethod q.1 ∈ tables_1 ∧ Cond.instanceMethod q.1 ∈ tables_1
theorem lw_p0 : lw_okq (⟨"SmokeTalk$Text", "readNumber", "()I"⟩, 6) := ⟨⟨by decide +kernel, by decide +kernel⟩, List.mem_of_getElem? (i := 24) (by decide +kernel), List.mem_of_getElem? (i := 256) (by decide +kernel), List.mem_of_getElem? (i := 257) (by decide +kernel)⟩
theorem lw_p1 : lw_okq (⟨"SmokeTalk$Text", "readName", "()I"⟩, 6) := ⟨⟨by decide +kernel, by decide +kernel⟩, List.mem_of_getElem? (i := 24) (by decide +kernel), List.mem_of_getElem? (i := 263) (by decide +kernel), List.mem_of_getElem? (i := 264) (by decide +kernel)⟩
theorem lw_p2 : lw_okq (⟨"SmokeTalk$Text", "spells", "(Ljava/lang/String;)Z"⟩, 6) := ⟨⟨by decide +kernel, by decide +kernel⟩, List.mem_of_getElem? (i := 24) (by decide +kernel), List.mem_of_getElem? (i := 268) (by decide +kernel), List.mem_of_getElem? (i := 269) (by decide +kernel)⟩
theorem lw_p3 : lw_okq (⟨"SmokeTalk$Telling", "readItem", "(LSmokeTalk$Text;)Z"⟩, 4) := ⟨⟨by decide +kernel, by decide +kernel⟩, List.mem_of_getElem? (i := 54) (by decide +kernel), List.mem_of_getElem? (i := 322) (by decide +kernel), List.mem_of_getElem? (i := 323) (by decide +kernel)⟩
theorem lw_p4 : lw_okq (⟨"SmokeTalk$Telling", "mayBegin", "(I)Z"⟩, 4) := ⟨⟨by decide +kernel, by decide +kernel⟩, List.mem_of_getElem? (i := 54) (by decide +kernel), List.mem_of_getElem? (i := 326) (by decide +kernel), List.mem_of_getElem? (i := 327) (by decide +kernel)⟩
theorem lw_p5 : lw_okq (⟨"SmokeTalk$Telling", "draft", "(I)V"⟩, 4) := ⟨⟨by decide +kernel, by decide +kernel⟩, List.mem_of_getElem? (i := 54) (by decide +kernel), List.mem_of_getElem? (i := 337) (by decide +kernel), List.mem_of_getElem? (i := 338) (by decide +kernel)⟩
theorem lw_p6 : lw_okq (⟨"SmokeTalk", "couldCook", "(II)Z"⟩, 10) := ⟨⟨by decide +kernel, by decide +kernel⟩, List.mem_of_getElem? (i := 16) (by decide +kernel), List.mem_of_getElem? (i := 391) (by decide +kernel), List.mem_of_getElem? (i := 392) (by decide +kernel)⟩
theorem lw_p7 : lw_okq (⟨"SmokeTalk$Speech", "compare", "(I)V"⟩, 6) := ⟨⟨by decide +kernel, by decide +kernel⟩, List.mem_of_getElem? (i := 151) (by decide +kernel), List.mem_of_getElem? (i := 456) (by decide +kernel), List.mem_of_getElem? (i := 457) (by decide +kernel)⟩
theorem lw_p8 : lw_okq (⟨"SmokeTalk", "weightOf", "(II)I"⟩, 10) := ⟨⟨by decide +kernel, by decide +kernel⟩, List.mem_of_getElem? (i := 16) (by decide +kernel), List.mem_of_getElem? (i := 532) (by decide +kernel), List.mem_of_getElem? (i := 533) (by decide +kernel)⟩
theorem lw_p9 : lw_okq (⟨"SmokeTalk$Menu", "standsOff", "(III)Z"⟩, 5) := ⟨⟨by decide +kernel, by decide +kernel⟩, List.mem_of_getElem? (i := 60) (by decide +kernel), List.mem_of_getElem? (i := 558) (by decide +kernel), List.mem_of_getElem? (i := 559) (by decide +kernel)⟩
theorem lw_p10 : lw_okq (⟨"SmokeTalk", "markOfDish", "(I)I"⟩, 10) := ⟨⟨by decide +kernel, by decide +kernel⟩, List.mem_of_getElem? (i := 16) (by decide +kernel), List.mem_of_getElem? (i := 600) (by decide +kernel), List.mem_of_getElem? (i := 601) (by decide +kernel)⟩
theorem lw_p11 : lw_okq (⟨"SmokeTalk", "markOfStew", "(I)I"⟩, 10) := ⟨⟨by decide +kernel, by decide +kernel⟩, List.mem_of_getElem? (i := 16) (by decide +kernel), List.mem_of_getElem? (i := 604) (by decide +kernel), List.mem_of_getElem? (i := 605) (by decide +kernel)⟩
theorem lw_p12 : lw_okq (⟨"SmokeTalk", "markOfRoast", "(I)I"⟩, 10) := ⟨⟨by decide +kernel, by decide +kernel⟩, List.mem_of_getElem? (i := 16) (by decide +kernel), List.mem_of_getElem? (i := 609) (by decide +kernel), List.mem_of_getElem? (i := 610) (by decide +kernel)⟩
theorem lw_p13 : lw_okq (⟨"SmokeTalk", "markOfBrides", "(I)I"⟩, 10) := ⟨⟨by decide +kernel, by decide +kernel⟩, List.mem_of_getElem? (i := 16) (by decide +kernel), List.mem_of_getElem? (i := 614) (by decide +kernel), List.mem_of_getElem? (i := 615) (by decide +kernel)⟩
theorem lw_p14 : lw_okq (⟨"SmokeTalk", "markOfPoor", "(I)I"⟩, 10) := ⟨⟨by decide +kernel, by decide +kernel⟩, List.mem_of_getElem? (i := 16) (by decide +kernel), List.mem_of_getElem? (i := 618) (by decide +kernel), List.mem_of_getElem? (i := 619) (by decide +kernel)⟩
theorem lw_p15 : lw_okq (⟨"SmokeTalk", "markOfBurnt", "(I)I"⟩, 10) := ⟨⟨by decide +kernel, by decide +kernel⟩, List.mem_of_getElem? (i := 16) (by decide +kernel), List.mem_of_getElem? (i := 623) (by decide +kernel), List.mem_of_getElem? (i := 624) (by decide +kernel)⟩
def lw_privs_1 : List (MethodName × Nat) := [(⟨"SmokeTalk$Text", "readNumber", "()I"⟩, 6), (⟨"SmokeTalk$Text", "readName", "()I"⟩, 6), (⟨"SmokeTalk$Text", "spells", "(Ljava/lang/String;)Z"⟩, 6), (⟨"SmokeTalk$Telling", "readItem", "(LSmokeTalk$Text;)Z"⟩, 4), (⟨"SmokeTalk$Telling", "mayBegin", "(I)Z"⟩, 4), (⟨"SmokeTalk$Telling", "draft", "(I)V"⟩, 4), (⟨"SmokeTalk", "couldCook", "(II)Z"⟩, 10), (⟨"SmokeTalk$Speech", "compare", "(I)V"⟩, 6), (⟨"SmokeTalk", "weightOf", "(II)I"⟩, 10), (⟨"SmokeTalk$Menu", "standsOff", "(III)Z"⟩, 5), (⟨"SmokeTalk", "markOfDish", "(I)I"⟩, 10), (⟨"SmokeTalk", "markOfStew", "(I)I"⟩, 10), (⟨"SmokeTalk", "markOfRoast", "(I)I"⟩, 10), (⟨"SmokeTalk", "markOfBrides", "(I)I"⟩, 10), (⟨"SmokeTalk", "markOfPoor", "(I)I"⟩, 10), (⟨"SmokeTalk", "markOfBurnt", "(I)I"⟩, 10)]
theorem lw_r1 : ∀ q ∈ lw_privs_1, lw_okq q := List.forall_mem_cons.mpr ⟨lw_p0, List.forall_mem_cons.mpr ⟨lw_p1, List.forall_mem_cons.mpr ⟨lw_p2, List.forall_mem_cons.mpr ⟨lw_p3, List.forall_mem_cons.mpr ⟨lw_p4, List.forall_mem_cons.mpr ⟨lw_p5, List.forall_mem_cons.mpr ⟨lw_p6, List.forall_mem_cons.mpr ⟨lw_p7, List.forall_mem_cons.mpr ⟨lw_p8, List.forall_mem_cons.mpr ⟨lw_p9, List.forall_mem_cons.mpr ⟨lw_p10, List.forall_mem_cons.mpr ⟨lw_p11, List.forall_mem_cons.mpr ⟨lw_p12, List.forall_mem_cons.mpr ⟨lw_p13, List.forall_mem_cons.mpr ⟨lw_p14, List.forall_mem_cons.mpr ⟨lw_p15, fun _ h => absurd h List.not_mem_nil⟩⟩⟩⟩⟩⟩⟩⟩⟩⟩⟩⟩⟩⟩⟩⟩
theorem lw_p16 : lw_okq (⟨"SmokeTalk", "imageOf", "(I)LSmokeTalk$Suppers;"⟩, 10) := ⟨⟨by decide +kernel, by decide +kernel⟩, List.mem_of_getElem? (i := 16) (by decide +kernel), List.mem_of_getElem? (i := 632) (by decide +kernel), List.mem_of_getElem? (i := 633) (by decide +kernel)⟩
theorem lw_p17 : lw_okq (⟨"SmokeTalkModel", "next", "()V"⟩, 24) := ⟨⟨by decide +kernel, by decide +kernel⟩, List.mem_of_getElem? (i := 648) (by decide +kernel), List.mem_of_getElem? (i := 744) (by decide +kernel), List.mem_of_getElem? (i := 745) (by decide +kernel)⟩
theorem lw_p18 : lw_okq (⟨"SmokeTalkModel", "here", "()I"⟩, 24) := ⟨⟨by decide +kernel, by decide +kernel⟩, List.mem_of_getElem? (i := 648) (by decide +kernel), List.mem_of_getElem? (i := 748) (by decide +kernel), List.mem_of_getElem? (i := 749) (by decide +kernel)⟩
theorem lw_p19 : lw_okq (⟨"SmokeTalkModel", "readItem", "()V"⟩, 24) := ⟨⟨by decide +kernel, by decide +kernel⟩, List.mem_of_getElem? (i := 648) (by decide +kernel), List.mem_of_getElem? (i := 755) (by decide +kernel), List.mem_of_getElem? (i := 756) (by decide +kernel)⟩
theorem lw_p20 : lw_okq (⟨"SmokeTalkModel", "due", "(Z)I"⟩, 24) := ⟨⟨by decide +kernel, by decide +kernel⟩, List.mem_of_getElem? (i := 648) (by decide +kernel), List.mem_of_getElem? (i := 759) (by decide +kernel), List.mem_of_getElem? (i := 760) (by decide +kernel)⟩
theorem lw_p21 : lw_okq (⟨"SmokeTalkModel", "number", "(I)I"⟩, 24) := ⟨⟨by decide +kernel, by decide +kernel⟩, List.mem_of_getElem? (i := 648) (by decide +kernel), List.mem_of_getElem? (i := 763) (by decide +kernel), List.mem_of_getElem? (i := 764) (by decide +kernel)⟩
theorem lw_p22 : lw_okq (⟨"SmokeTalkModel", "isHouse", "(I)Z"⟩, 24) := ⟨⟨by decide +kernel, by decide +kernel⟩, List.mem_of_getElem? (i := 648) (by decide +kernel), List.mem_of_getElem? (i := 771) (by decide +kernel), List.mem_of_getElem? (i := 772) (by decide +kernel)⟩
theorem lw_p23 : lw_okq (⟨"SmokeTalkModel", "storeOf", "(I)I"⟩, 24) := ⟨⟨by decide +kernel, by decide +kernel⟩, List.mem_of_getElem? (i := 648) (by decide +kernel), List.mem_of_getElem? (i := 775) (by decide +kernel), List.mem_of_getElem? (i := 776) (by decide +kernel)⟩
theorem lw_p24 : lw_okq (⟨"SmokeTalkModel", "isDish", "(I)Z"⟩, 24) := ⟨⟨by decide +kernel, by decide +kernel⟩, List.mem_of_getElem? (i := 648) (by decide +kernel), List.mem_of_getElem? (i := 783) (by decide +kernel), List.mem_of_getElem? (i := 784) (by decide +kernel)⟩
theorem lw_p25 : lw_okq (⟨"SmokeTalkModel", "unitsOf", "(I)I"⟩, 24) := ⟨⟨by decide +kernel, by decide +kernel⟩, List.mem_of_getElem? (i := 648) (by decide +kernel), List.mem_of_getElem? (i := 787) (by decide +kernel), List.mem_of_getElem? (i := 788) (by decide +kernel)⟩
theorem lw_p26 : lw_okq (⟨"SmokeTalkModel", "canCook", "(II)Z"⟩, 24) := ⟨⟨by decide +kernel, by decide +kernel⟩, List.mem_of_getElem? (i := 648) (by decide +kernel), List.mem_of_getElem? (i := 795) (by decide +kernel), List.mem_of_getElem? (i := 796) (by decide +kernel)⟩
theorem lw_p27 : lw_okq (⟨"SmokeTalkModel", "ask", "(III)V"⟩, 24) := ⟨⟨by decide +kernel, by decide +kernel⟩, List.mem_of_getElem? (i := 648) (by decide +kernel), List.mem_of_getElem? (i := 826) (by decide +kernel), List.mem_of_getElem? (i := 827) (by decide +kernel)⟩
theorem lw_p28 : lw_okq (⟨"SmokeTalkModel", "unitsFor", "(II)I"⟩, 24) := ⟨⟨by decide +kernel, by decide +kernel⟩, List.mem_of_getElem? (i := 648) (by decide +kernel), List.mem_of_getElem? (i := 830) (by decide +kernel), List.mem_of_getElem? (i := 831) (by decide +kernel)⟩
theorem lw_p29 : lw_okq (⟨"SmokeTalkModel", "isRow", "(II)Z"⟩, 24) := ⟨⟨by decide +kernel, by decide +kernel⟩, List.mem_of_getElem? (i := 648) (by decide +kernel), List.mem_of_getElem? (i := 834) (by decide +kernel), List.mem_of_getElem? (i := 835) (by decide +kernel)⟩
theorem lw_p30 : lw_okq (⟨"SmokeTalkModel", "hasAll", "(I)Z"⟩, 24) := ⟨⟨by decide +kernel, by decide +kernel⟩, List.mem_of_getElem? (i := 648) (by decide +kernel), List.mem_of_getElem? (i := 838) (by decide +kernel), List.mem_of_getElem? (i := 839) (by decide +kernel)⟩
theorem lw_p31 : lw_okq (⟨"SmokeTalkModel", "readAs", "(II)I"⟩, 24) := ⟨⟨by decide +kernel, by decide +kernel⟩, List.mem_of_getElem? (i := 648) (by decide +kernel), List.mem_of_getElem? (i := 856) (by decide +kernel), List.mem_of_getElem? (i := 857) (by decide +kernel)⟩
def lw_privs_2 : List (MethodName × Nat) := [(⟨"SmokeTalk", "imageOf", "(I)LSmokeTalk$Suppers;"⟩, 10), (⟨"SmokeTalkModel", "next", "()V"⟩, 24), (⟨"SmokeTalkModel", "here", "()I"⟩, 24), (⟨"SmokeTalkModel", "readItem", "()V"⟩, 24), (⟨"SmokeTalkModel", "due", "(Z)I"⟩, 24), (⟨"SmokeTalkModel", "number", "(I)I"⟩, 24), (⟨"SmokeTalkModel", "isHouse", "(I)Z"⟩, 24), (⟨"SmokeTalkModel", "storeOf", "(I)I"⟩, 24), (⟨"SmokeTalkModel", "isDish", "(I)Z"⟩, 24), (⟨"SmokeTalkModel", "unitsOf", "(I)I"⟩, 24), (⟨"SmokeTalkModel", "canCook", "(II)Z"⟩, 24), (⟨"SmokeTalkModel", "ask", "(III)V"⟩, 24), (⟨"SmokeTalkModel", "unitsFor", "(II)I"⟩, 24), (⟨"SmokeTalkModel", "isRow", "(II)Z"⟩, 24), (⟨"SmokeTalkModel", "hasAll", "(I)Z"⟩, 24), (⟨"SmokeTalkModel", "readAs", "(II)I"⟩, 24)]
theorem lw_r2 : ∀ q ∈ lw_privs_2, lw_okq q := List.forall_mem_cons.mpr ⟨lw_p16, List.forall_mem_cons.mpr ⟨lw_p17, List.forall_mem_cons.mpr ⟨lw_p18, List.forall_mem_cons.mpr ⟨lw_p19, List.forall_mem_cons.mpr ⟨lw_p20, List.forall_mem_cons.mpr ⟨lw_p21, List.forall_mem_cons.mpr ⟨lw_p22, List.forall_mem_cons.mpr ⟨lw_p23, List.forall_mem_cons.mpr ⟨lw_p24, List.forall_mem_cons.mpr ⟨lw_p25, List.forall_mem_cons.mpr ⟨lw_p26, List.forall_mem_cons.mpr ⟨lw_p27, List.forall_mem_cons.mpr ⟨lw_p28, List.forall_mem_cons.mpr ⟨lw_p29, List.forall_mem_cons.mpr ⟨lw_p30, List.forall_mem_cons.mpr ⟨lw_p31, fun _ h => absurd h List.not_mem_nil⟩⟩⟩⟩⟩⟩⟩⟩⟩⟩⟩⟩⟩⟩⟩⟩
theorem lw_p32 : lw_okq (⟨"SmokeTalkModel", "meant", "(I)I"⟩, 24) := ⟨⟨by decide +kernel, by decide +kernel⟩, List.mem_of_getElem? (i := 648) (by decide +kernel), List.mem_of_getElem? (i := 864) (by decide +kernel), List.mem_of_getElem? (i := 865) (by decide +kernel)⟩
theorem lw_p33 : lw_okq (⟨"SmokeTalkModel", "leastOf", "(I)I"⟩, 24) := ⟨⟨by decide +kernel, by decide +kernel⟩, List.mem_of_getElem? (i := 648) (by decide +kernel), List.mem_of_getElem? (i := 873) (by decide +kernel), List.mem_of_getElem? (i := 874) (by decide +kernel)⟩
theorem lw_p34 : lw_okq (⟨"SmokeTalkModel", "nextSupper", "()I"⟩, 24) := ⟨⟨by decide +kernel, by decide +kernel⟩, List.mem_of_getElem? (i := 648) (by decide +kernel), List.mem_of_getElem? (i := 889) (by decide +kernel), List.mem_of_getElem? (i := 890) (by decide +kernel)⟩
theorem lw_p35 : lw_okq (⟨"SmokeTalkModel", "saidBy", "(III)I"⟩, 24) := ⟨⟨by decide +kernel, by decide +kernel⟩, List.mem_of_getElem? (i := 648) (by decide +kernel), List.mem_of_getElem? (i := 897) (by decide +kernel), List.mem_of_getElem? (i := 898) (by decide +kernel)⟩
theorem lw_p36 : lw_okq (⟨"SmokeTalkModel", "copy", "(II)V"⟩, 24) := ⟨⟨by decide +kernel, by decide +kernel⟩, List.mem_of_getElem? (i := 648) (by decide +kernel), List.mem_of_getElem? (i := 932) (by decide +kernel), List.mem_of_getElem? (i := 933) (by decide +kernel)⟩
def lw_privs_3 : List (MethodName × Nat) := [(⟨"SmokeTalkModel", "meant", "(I)I"⟩, 24), (⟨"SmokeTalkModel", "leastOf", "(I)I"⟩, 24), (⟨"SmokeTalkModel", "nextSupper", "()I"⟩, 24), (⟨"SmokeTalkModel", "saidBy", "(III)I"⟩, 24), (⟨"SmokeTalkModel", "copy", "(II)V"⟩, 24)]
theorem lw_r3 : ∀ q ∈ lw_privs_3, lw_okq q := List.forall_mem_cons.mpr ⟨lw_p32, List.forall_mem_cons.mpr ⟨lw_p33, List.forall_mem_cons.mpr ⟨lw_p34, List.forall_mem_cons.mpr ⟨lw_p35, List.forall_mem_cons.mpr ⟨lw_p36, fun _ h => absurd h List.not_mem_nil⟩⟩⟩⟩⟩
def lw_privs : List (MethodName × Nat) := lw_privs_1 ++ (lw_privs_2 ++ (lw_privs_3))
def lw_tbl : List Cond := k2_sels lw_privs ++ tables_1
theorem lw_privs_ok : ∀ q ∈ lw_privs, lw_okq q := by
  show ∀ q ∈ lw_privs_1 ++ (lw_privs_2 ++ (lw_privs_3)), lw_okq q
  exact List.forall_mem_append.mpr ⟨lw_r1, List.forall_mem_append.mpr ⟨lw_r2, lw_r3⟩⟩
def RX0 : String := "SmokeTalk$Chain"
def TX0 : u_T := fun k => match k with
  | 0 => ("SmokeTalk$Chain", "meant", "[J", true)
  | _ => ("SmokeTalk$Chain", "next", "[J", true)
def tyX0 : Nat → FieldType := fun k => match k with
  | 0 => .array .long
  | _ => .array .long
abbrev wsX00 : List Cond := u_ws RX0 TX0 2
theorem nmX0 : ∀ a, a < 2 → ∀ b, b < 2 → a ≠ b → (TX0 a).2.1 ≠ (TX0 b).2.1 := by decide +kernel
theorem tyX0_ok : ∀ k, k < 2 → parseFieldDescriptor (TX0 k).2.2.1 = some (tyX0 k) := by decide +kernel
abbrev cX0_init : ByteArray := prog_2_method_1_code
def yX0_init : MethodName := ⟨RX0, "<init>", "()V"⟩
abbrev cX0_begin : ByteArray := prog_2_method_2_code
def yX0_begin : MethodName := ⟨RX0, "begin", "(I)V"⟩
abbrev cX0_read : ByteArray := prog_2_method_3_code
def yX0_read : MethodName := ⟨RX0, "read", "(LSmokeTalk$Menu;LSmokeTalk$Suppers;)V"⟩
def RX1 : String := "SmokeTalk$Menu"
def TX1 : u_T := fun k => match k with
  | 0 => ("SmokeTalk$Menu", "needs", "[I", true)
  | 1 => ("SmokeTalk$Menu", "units", "[I", true)
  | 2 => ("SmokeTalk$Menu", "smokes", "[I", true)
  | 3 => ("SmokeTalk$Menu", "words", "[I", true)
  | _ => ("SmokeTalk$Menu", "dishes", "I", false)
def tyX1 : Nat → FieldType := fun k => match k with
  | 0 => .array .int
  | 1 => .array .int
  | 2 => .array .int
  | 3 => .array .int
  | _ => .int
abbrev wsX10 : List Cond := u_ws RX1 TX1 5
theorem nmX1 : ∀ a, a < 5 → ∀ b, b < 5 → a ≠ b → (TX1 a).2.1 ≠ (TX1 b).2.1 := by decide +kernel
theorem tyX1_ok : ∀ k, k < 5 → parseFieldDescriptor (TX1 k).2.2.1 = some (tyX1 k) := by decide +kernel
abbrev cX1_init : ByteArray := prog_3_method_1_code
def yX1_init : MethodName := ⟨RX1, "<init>", "()V"⟩
abbrev cX1_become : ByteArray := prog_3_method_2_code
def yX1_become : MethodName := ⟨RX1, "become", "(LSmokeTalk$Menu;)V"⟩
abbrev cX1_list : ByteArray := prog_3_method_3_code
def yX1_list : MethodName := ⟨RX1, "list", "([I)V"⟩
abbrev cX1_lists : ByteArray := prog_3_method_4_code
def yX1_lists : MethodName := ⟨RX1, "lists", "(I)Z"⟩
abbrev cX1_need : ByteArray := prog_3_method_5_code
def yX1_need : MethodName := ⟨RX1, "need", "(II)I"⟩
abbrev cX1_fits : ByteArray := prog_3_method_6_code
def yX1_fits : MethodName := ⟨RX1, "fits", "(I[I)Z"⟩
abbrev cX1_take : ByteArray := prog_3_method_7_code
def yX1_take : MethodName := ⟨RX1, "take", "(I[I)V"⟩
abbrev cX1_putBack : ByteArray := prog_3_method_8_code
def yX1_putBack : MethodName := ⟨RX1, "putBack", "(I[I)V"⟩
abbrev cX1_leanest : ByteArray := prog_3_method_9_code
def yX1_leanest : MethodName := ⟨RX1, "leanest", "([I)I"⟩
abbrev cX1_leastSaying : ByteArray := prog_3_method_10_code
def yX1_leastSaying : MethodName := ⟨RX1, "leastSaying", "(I)I"⟩
abbrev cX1_meaning : ByteArray := prog_3_method_11_code
def yX1_meaning : MethodName := ⟨RX1, "meaning", "(I)I"⟩
abbrev cX1_smokeOfAll : ByteArray := prog_3_method_12_code
def yX1_smokeOfAll : MethodName := ⟨RX1, "smokeOfAll", "(I)I"⟩
abbrev cX1_anySays : ByteArray := prog_3_method_13_code
def yX1_anySays : MethodName := ⟨RX1, "anySays", "(II)Z"⟩
abbrev cX1_tellsApart : ByteArray := prog_3_method_14_code
def yX1_tellsApart : MethodName := ⟨RX1, "tellsApart", "(III)Z"⟩
abbrev cX1_standsOff : ByteArray := prog_3_method_15_code
def yX1_standsOff : MethodName := ⟨RX1, "standsOff", "(III)Z"⟩
abbrev cX1_holds : ByteArray := prog_3_method_16_code
def yX1_holds : MethodName := ⟨RX1, "holds", "(II)Z"⟩
def RX2 : String := "SmokeTalk$Speech"
def TX2 : u_T := fun k => match k with
  | 0 => ("SmokeTalk$Speech", "row", "[I", true)
  | 1 => ("SmokeTalk$Speech", "chosen", "[I", true)
  | 2 => ("SmokeTalk$Speech", "best", "[I", true)
  | 3 => ("SmokeTalk$Speech", "left", "[I", true)
  | 4 => ("SmokeTalk$Speech", "told", "I", false)
  | _ => ("SmokeTalk$Speech", "fewest", "I", false)
def tyX2 : Nat → FieldType := fun k => match k with
  | 0 => .array .int
  | 1 => .array .int
  | 2 => .array .int
  | 3 => .array .int
  | 4 => .int
  | _ => .int
abbrev wsX20 : List Cond := u_ws RX2 TX2 6
theorem nmX2 : ∀ a, a < 6 → ∀ b, b < 6 → a ≠ b → (TX2 a).2.1 ≠ (TX2 b).2.1 := by decide +kernel
theorem tyX2_ok : ∀ k, k < 6 → parseFieldDescriptor (TX2 k).2.2.1 = some (tyX2 k) := by decide +kernel
abbrev cX2_init : ByteArray := prog_4_method_1_code
def yX2_init : MethodName := ⟨RX2, "<init>", "()V"⟩
abbrev cX2_hear : ByteArray := prog_4_method_2_code
def yX2_hear : MethodName := ⟨RX2, "hear", "(III)V"⟩
abbrev cX2_fewestUnits : ByteArray := prog_4_method_3_code
def yX2_fewestUnits : MethodName := ⟨RX2, "fewestUnits", "(LSmokeTalk$Menu;I)I"⟩
abbrev cX2_mostPlaces : ByteArray := prog_4_method_4_code
def yX2_mostPlaces : MethodName := ⟨RX2, "mostPlaces", "(LSmokeTalk$Menu;)I"⟩
abbrev cX2_choose : ByteArray := prog_4_method_5_code
def yX2_choose : MethodName := ⟨RX2, "choose", "(LSmokeTalk$Speech;LSmokeTalk$Menu;III)V"⟩
abbrev cX2_compare : ByteArray := prog_4_method_6_code
def yX2_compare : MethodName := ⟨RX2, "compare", "(I)V"⟩
def RX3 : String := "SmokeTalk$Suppers"
def TX3 : u_T := fun k => match k with
  | 0 => ("SmokeTalk$Suppers", "larders", "[I", true)
  | 1 => ("SmokeTalk$Suppers", "plumeHouses", "[I", true)
  | 2 => ("SmokeTalk$Suppers", "plumeDishes", "[I", true)
  | 3 => ("SmokeTalk$Suppers", "houses", "I", false)
  | 4 => ("SmokeTalk$Suppers", "plumes", "I", false)
  | 5 => ("SmokeTalk$Suppers", "haze", "I", false)
  | 6 => ("SmokeTalk$Suppers", "lottery", "I", false)
  | _ => ("SmokeTalk$Suppers", "kept", "Z", false)
def tyX3 : Nat → FieldType := fun k => match k with
  | 0 => .array .int
  | 1 => .array .int
  | 2 => .array .int
  | 3 => .int
  | 4 => .int
  | 5 => .int
  | 6 => .int
  | _ => .boolean
abbrev wsX30 : List Cond := u_ws RX3 TX3 8
theorem nmX3 : ∀ a, a < 8 → ∀ b, b < 8 → a ≠ b → (TX3 a).2.1 ≠ (TX3 b).2.1 := by decide +kernel
theorem tyX3_ok : ∀ k, k < 8 → parseFieldDescriptor (TX3 k).2.2.1 = some (tyX3 k) := by decide +kernel
abbrev cX3_init : ByteArray := prog_5_method_1_code
def yX3_init : MethodName := ⟨RX3, "<init>", "()V"⟩
abbrev cX3_become : ByteArray := prog_5_method_2_code
def yX3_become : MethodName := ⟨RX3, "become", "(LSmokeTalk$Suppers;)V"⟩
abbrev cX3_settle : ByteArray := prog_5_method_3_code
def yX3_settle : MethodName := ⟨RX3, "settle", "([I)V"⟩
abbrev cX3_hasHouse : ByteArray := prog_5_method_4_code
def yX3_hasHouse : MethodName := ⟨RX3, "hasHouse", "(I)Z"⟩
abbrev cX3_stock : ByteArray := prog_5_method_5_code
def yX3_stock : MethodName := ⟨RX3, "stock", "(II)I"⟩
abbrev cX3_allStock : ByteArray := prog_5_method_6_code
def yX3_allStock : MethodName := ⟨RX3, "allStock", "(I)I"⟩
abbrev cX3_change : ByteArray := prog_5_method_7_code
def yX3_change : MethodName := ⟨RX3, "change", "(III)V"⟩
abbrev cX3_fill : ByteArray := prog_5_method_8_code
def yX3_fill : MethodName := ⟨RX3, "fill", "(I[I)V"⟩
abbrev cX3_rise : ByteArray := prog_5_method_9_code
def yX3_rise : MethodName := ⟨RX3, "rise", "(II)V"⟩
abbrev cX3_thousandths : ByteArray := prog_5_method_10_code
def yX3_thousandths : MethodName := ⟨RX3, "thousandths", "(II)I"⟩
abbrev cX3_draw : ByteArray := prog_5_method_11_code
def yX3_draw : MethodName := ⟨RX3, "draw", "()I"⟩
def RX4 : String := "SmokeTalk$Telling"
def TX4 : u_T := fun k => match k with
  | 0 => ("SmokeTalk$Telling", "menu", "LSmokeTalk$Menu;", true)
  | 1 => ("SmokeTalk$Telling", "suppers", "LSmokeTalk$Suppers;", true)
  | 2 => ("SmokeTalk$Telling", "numbers", "[I", true)
  | _ => ("SmokeTalk$Telling", "fogTold", "Z", false)
def tyX4 : Nat → FieldType := fun k => match k with
  | 0 => .object "SmokeTalk$Menu"
  | 1 => .object "SmokeTalk$Suppers"
  | 2 => .array .int
  | _ => .boolean
abbrev wsX40 : List Cond := u_ws RX4 TX4 4
theorem nmX4 : ∀ a, a < 4 → ∀ b, b < 4 → a ≠ b → (TX4 a).2.1 ≠ (TX4 b).2.1 := by decide +kernel
theorem tyX4_ok : ∀ k, k < 4 → parseFieldDescriptor (TX4 k).2.2.1 = some (tyX4 k) := by decide +kernel
abbrev cX4_init : ByteArray := prog_6_method_1_code
def yX4_init : MethodName := ⟨RX4, "<init>", "()V"⟩
abbrev cX4_readAll : ByteArray := prog_6_method_2_code
def yX4_readAll : MethodName := ⟨RX4, "readAll", "(LSmokeTalk$Text;)I"⟩
abbrev cX4_readItem : ByteArray := prog_6_method_3_code
def yX4_readItem : MethodName := ⟨RX4, "readItem", "(LSmokeTalk$Text;)Z"⟩
abbrev cX4_mayBegin : ByteArray := prog_6_method_4_code
def yX4_mayBegin : MethodName := ⟨RX4, "mayBegin", "(I)Z"⟩
abbrev cX4_numbersOf : ByteArray := prog_6_method_5_code
def yX4_numbersOf : MethodName := ⟨RX4, "numbersOf", "(I)I"⟩
abbrev cX4_mostOf : ByteArray := prog_6_method_6_code
def yX4_mostOf : MethodName := ⟨RX4, "mostOf", "(II)I"⟩
abbrev cX4_draft : ByteArray := prog_6_method_7_code
def yX4_draft : MethodName := ⟨RX4, "draft", "(I)V"⟩
def RX5 : String := "SmokeTalk$Text"
def TX5 : u_T := fun k => match k with
  | 0 => ("SmokeTalk$Text", "bytes", "[I", true)
  | 1 => ("SmokeTalk$Text", "length", "I", false)
  | 2 => ("SmokeTalk$Text", "at", "I", false)
  | 3 => ("SmokeTalk$Text", "start", "I", false)
  | 4 => ("SmokeTalk$Text", "token", "I", false)
  | _ => ("SmokeTalk$Text", "number", "I", false)
def tyX5 : Nat → FieldType := fun k => match k with
  | 0 => .array .int
  | 1 => .int
  | 2 => .int
  | 3 => .int
  | 4 => .int
  | _ => .int
abbrev wsX50 : List Cond := u_ws RX5 TX5 6
theorem nmX5 : ∀ a, a < 6 → ∀ b, b < 6 → a ≠ b → (TX5 a).2.1 ≠ (TX5 b).2.1 := by decide +kernel
theorem tyX5_ok : ∀ k, k < 6 → parseFieldDescriptor (TX5 k).2.2.1 = some (tyX5 k) := by decide +kernel
abbrev cX5_init : ByteArray := prog_7_method_1_code
def yX5_init : MethodName := ⟨RX5, "<init>", "()V"⟩
abbrev cX5_append : ByteArray := prog_7_method_2_code
def yX5_append : MethodName := ⟨RX5, "append", "(I)V"⟩
abbrev cX5_rewind : ByteArray := prog_7_method_3_code
def yX5_rewind : MethodName := ⟨RX5, "rewind", "()V"⟩
abbrev cX5_step : ByteArray := prog_7_method_4_code
def yX5_step : MethodName := ⟨RX5, "step", "()V"⟩
abbrev cX5_readNumber : ByteArray := prog_7_method_5_code
def yX5_readNumber : MethodName := ⟨RX5, "readNumber", "()I"⟩
abbrev cX5_readName : ByteArray := prog_7_method_6_code
def yX5_readName : MethodName := ⟨RX5, "readName", "()I"⟩
abbrev cX5_spells : ByteArray := prog_7_method_7_code
def yX5_spells : MethodName := ⟨RX5, "spells", "(Ljava/lang/String;)Z"⟩
abbrev cX5_isDigit : ByteArray := prog_7_method_8_code
def yX5_isDigit : MethodName := ⟨RX5, "isDigit", "(I)Z"⟩
abbrev cX5_isLetter : ByteArray := prog_7_method_9_code
def yX5_isLetter : MethodName := ⟨RX5, "isLetter", "(I)Z"⟩
def RX6 : String := "SmokeTalk"
def TX6 : u_T := fun k => match k with
  | 0 => ("SmokeTalk", "text", "LSmokeTalk$Text;", true)
  | 1 => ("SmokeTalk", "telling", "LSmokeTalk$Telling;", true)
  | 2 => ("SmokeTalk", "menu", "LSmokeTalk$Menu;", true)
  | 3 => ("SmokeTalk", "now", "LSmokeTalk$Suppers;", true)
  | 4 => ("SmokeTalk", "firstImage", "LSmokeTalk$Suppers;", true)
  | 5 => ("SmokeTalk", "secondImage", "LSmokeTalk$Suppers;", true)
  | 6 => ("SmokeTalk", "speech", "LSmokeTalk$Speech;", true)
  | 7 => ("SmokeTalk", "links", "LSmokeTalk$Chain;", true)
  | 8 => ("SmokeTalk", "pot", "[I", true)
  | _ => ("SmokeTalk", "traced", "J", false)
def tyX6 : Nat → FieldType := fun k => match k with
  | 0 => .object "SmokeTalk$Text"
  | 1 => .object "SmokeTalk$Telling"
  | 2 => .object "SmokeTalk$Menu"
  | 3 => .object "SmokeTalk$Suppers"
  | 4 => .object "SmokeTalk$Suppers"
  | 5 => .object "SmokeTalk$Suppers"
  | 6 => .object "SmokeTalk$Speech"
  | 7 => .object "SmokeTalk$Chain"
  | 8 => .array .int
  | _ => .long
abbrev wsX60 : List Cond := u_ws RX6 TX6 10
theorem nmX6 : ∀ a, a < 10 → ∀ b, b < 10 → a ≠ b → (TX6 a).2.1 ≠ (TX6 b).2.1 := by decide +kernel
theorem tyX6_ok : ∀ k, k < 10 → parseFieldDescriptor (TX6 k).2.2.1 = some (tyX6 k) := by decide +kernel
abbrev cX6_init : ByteArray := prog_1_method_1_code
def yX6_init : MethodName := ⟨RX6, "<init>", "()V"⟩
abbrev cX6_type : ByteArray := prog_1_method_2_code
def yX6_type : MethodName := ⟨RX6, "type", "(JI)I"⟩
abbrev cX6_clear : ByteArray := prog_1_method_3_code
def yX6_clear : MethodName := ⟨RX6, "clear", "()I"⟩
abbrev cX6_valley : ByteArray := prog_1_method_4_code
def yX6_valley : MethodName := ⟨RX6, "valley", "()I"⟩
abbrev cX6_house : ByteArray := prog_1_method_5_code
def yX6_house : MethodName := ⟨RX6, "house", "(II)I"⟩
abbrev cX6_dish : ByteArray := prog_1_method_6_code
def yX6_dish : MethodName := ⟨RX6, "dish", "(II)I"⟩
abbrev cX6_cook : ByteArray := prog_1_method_7_code
def yX6_cook : MethodName := ⟨RX6, "cook", "(II)I"⟩
abbrev cX6_undo : ByteArray := prog_1_method_8_code
def yX6_undo : MethodName := ⟨RX6, "undo", "()I"⟩
abbrev cX6_gives : ByteArray := prog_1_method_9_code
def yX6_gives : MethodName := ⟨RX6, "gives", "(IIII)I"⟩
abbrev cX6_burns : ByteArray := prog_1_method_10_code
def yX6_burns : MethodName := ⟨RX6, "burns", "(I)I"⟩
abbrev cX6_plume : ByteArray := prog_1_method_11_code
def yX6_plume : MethodName := ⟨RX6, "plume", "(II)I"⟩
abbrev cX6_fog : ByteArray := prog_1_method_12_code
def yX6_fog : MethodName := ⟨RX6, "fog", "(I)I"⟩
abbrev cX6_says : ByteArray := prog_1_method_13_code
def yX6_says : MethodName := ⟨RX6, "says", "(IIIII)I"⟩
abbrev cX6_nearest : ByteArray := prog_1_method_14_code
def yX6_nearest : MethodName := ⟨RX6, "nearest", "(IIII)I"⟩
abbrev cX6_reads : ByteArray := prog_1_method_15_code
def yX6_reads : MethodName := ⟨RX6, "reads", "(II)I"⟩
abbrev cX6_means : ByteArray := prog_1_method_16_code
def yX6_means : MethodName := ⟨RX6, "means", "(I)I"⟩
abbrev cX6_chain : ByteArray := prog_1_method_17_code
def yX6_chain : MethodName := ⟨RX6, "chain", "(III)J"⟩
abbrev cX6_who : ByteArray := prog_1_method_18_code
def yX6_who : MethodName := ⟨RX6, "who", "(III)I"⟩
abbrev cX6_days : ByteArray := prog_1_method_19_code
def yX6_days : MethodName := ⟨RX6, "days", "(I)I"⟩
abbrev cX6_code : ByteArray := prog_1_method_20_code
def yX6_code : MethodName := ⟨RX6, "code", "(III)I"⟩
abbrev cX6_feast : ByteArray := prog_1_method_21_code
def yX6_feast : MethodName := ⟨RX6, "feast", "(II)I"⟩
abbrev cX6_silent : ByteArray := prog_1_method_22_code
def yX6_silent : MethodName := ⟨RX6, "silent", "(I)I"⟩
abbrev cX6_drawn : ByteArray := prog_1_method_23_code
def yX6_drawn : MethodName := ⟨RX6, "drawn", "(I)I"⟩
abbrev cX6_lot : ByteArray := prog_1_method_24_code
def yX6_lot : MethodName := ⟨RX6, "lot", "(I)I"⟩
abbrev cX6_mark : ByteArray := prog_1_method_25_code
def yX6_mark : MethodName := ⟨RX6, "mark", "(II)I"⟩
abbrev cX6_keep : ByteArray := prog_1_method_26_code
def yX6_keep : MethodName := ⟨RX6, "keep", "(I)I"⟩
abbrev cX6_back : ByteArray := prog_1_method_27_code
def yX6_back : MethodName := ⟨RX6, "back", "(I)I"⟩
abbrev cX6_count : ByteArray := prog_1_method_28_code
def yX6_count : MethodName := ⟨RX6, "count", "(I)I"⟩
abbrev cX6_trace : ByteArray := prog_1_method_29_code
def yX6_trace : MethodName := ⟨RX6, "trace", "()J"⟩
abbrev cX6_isSmoke : ByteArray := prog_1_method_30_code
def yX6_isSmoke : MethodName := ⟨RX6, "isSmoke", "(I)Z"⟩
abbrev cX6_isWord : ByteArray := prog_1_method_31_code
def yX6_isWord : MethodName := ⟨RX6, "isWord", "(I)Z"⟩
abbrev cX6_isRow : ByteArray := prog_1_method_32_code
def yX6_isRow : MethodName := ⟨RX6, "isRow", "(III)Z"⟩
abbrev cX6_couldCook : ByteArray := prog_1_method_33_code
def yX6_couldCook : MethodName := ⟨RX6, "couldCook", "(II)Z"⟩
abbrev cX6_weightOf : ByteArray := prog_1_method_34_code
def yX6_weightOf : MethodName := ⟨RX6, "weightOf", "(II)I"⟩
abbrev cX6_leastTerms : ByteArray := prog_1_method_35_code
def yX6_leastTerms : MethodName := ⟨RX6, "leastTerms", "(JJI)J"⟩
abbrev cX6_imageOf : ByteArray := prog_1_method_36_code
def yX6_imageOf : MethodName := ⟨RX6, "imageOf", "(I)LSmokeTalk$Suppers;"⟩
abbrev cX6_markOfDish : ByteArray := prog_1_method_37_code
def yX6_markOfDish : MethodName := ⟨RX6, "markOfDish", "(I)I"⟩
abbrev cX6_markOfStew : ByteArray := prog_1_method_38_code
def yX6_markOfStew : MethodName := ⟨RX6, "markOfStew", "(I)I"⟩
abbrev cX6_markOfRoast : ByteArray := prog_1_method_39_code
def yX6_markOfRoast : MethodName := ⟨RX6, "markOfRoast", "(I)I"⟩
abbrev cX6_markOfBrides : ByteArray := prog_1_method_40_code
def yX6_markOfBrides : MethodName := ⟨RX6, "markOfBrides", "(I)I"⟩
abbrev cX6_markOfPoor : ByteArray := prog_1_method_41_code
def yX6_markOfPoor : MethodName := ⟨RX6, "markOfPoor", "(I)I"⟩
abbrev cX6_markOfBurnt : ByteArray := prog_1_method_42_code
def yX6_markOfBurnt : MethodName := ⟨RX6, "markOfBurnt", "(I)I"⟩
def RX7 : String := "SmokeTalkModel"
def TX7 : u_T := fun k => match k with
  | 0 => ("SmokeTalkModel", "trace", "J", false)
  | 1 => ("SmokeTalkModel", "text", "[B", true)
  | 2 => ("SmokeTalkModel", "typed", "I", false)
  | 3 => ("SmokeTalkModel", "houses", "[I", true)
  | 4 => ("SmokeTalkModel", "larder", "[I", true)
  | 5 => ("SmokeTalkModel", "dishes", "[I", true)
  | 6 => ("SmokeTalkModel", "needs", "[I", true)
  | 7 => ("SmokeTalkModel", "smoke", "[I", true)
  | 8 => ("SmokeTalkModel", "word", "[I", true)
  | 9 => ("SmokeTalkModel", "fogs", "[I", true)
  | 10 => ("SmokeTalkModel", "at", "I", false)
  | 11 => ("SmokeTalkModel", "start", "I", false)
  | 12 => ("SmokeTalkModel", "sort", "I", false)
  | 13 => ("SmokeTalkModel", "value", "I", false)
  | 14 => ("SmokeTalkModel", "fault", "I", false)
  | 15 => ("SmokeTalkModel", "hasFog", "Z", false)
  | 16 => ("SmokeTalkModel", "now", "[I", true)
  | 17 => ("SmokeTalkModel", "isKept", "[Z", true)
  | 18 => ("SmokeTalkModel", "row", "[I", true)
  | 19 => ("SmokeTalkModel", "best", "[I", true)
  | 20 => ("SmokeTalkModel", "asked", "[I", true)
  | 21 => ("SmokeTalkModel", "share", "[J", true)
  | 22 => ("SmokeTalkModel", "then", "[J", true)
  | _ => ("SmokeTalkModel", "left", "[I", true)
def tyX7 : Nat → FieldType := fun k => match k with
  | 0 => .long
  | 1 => .array .byte
  | 2 => .int
  | 3 => .array .int
  | 4 => .array .int
  | 5 => .array .int
  | 6 => .array .int
  | 7 => .array .int
  | 8 => .array .int
  | 9 => .array .int
  | 10 => .int
  | 11 => .int
  | 12 => .int
  | 13 => .int
  | 14 => .int
  | 15 => .boolean
  | 16 => .array .int
  | 17 => .array .boolean
  | 18 => .array .int
  | 19 => .array .int
  | 20 => .array .int
  | 21 => .array .long
  | 22 => .array .long
  | _ => .array .int
abbrev wsX70 : List Cond := u_ws RX7 TX7 24
theorem nmX7 : ∀ a, a < 24 → ∀ b, b < 24 → a ≠ b → (TX7 a).2.1 ≠ (TX7 b).2.1 := by decide +kernel
theorem tyX7_ok : ∀ k, k < 24 → parseFieldDescriptor (TX7 k).2.2.1 = some (tyX7 k) := by decide +kernel
abbrev cX7_init : ByteArray := prog_9_method_1_code
def yX7_init : MethodName := ⟨RX7, "<init>", "()V"⟩
abbrev cX7_in : ByteArray := prog_9_method_3_code
def yX7_in : MethodName := ⟨RX7, "in", "(III)Z"⟩
abbrev cX7_type : ByteArray := prog_9_method_4_code
def yX7_type : MethodName := ⟨RX7, "type", "(JI)I"⟩
abbrev cX7_clear : ByteArray := prog_9_method_5_code
def yX7_clear : MethodName := ⟨RX7, "clear", "()I"⟩
abbrev cX7_here : ByteArray := prog_9_method_6_code
def yX7_here : MethodName := ⟨RX7, "here", "()I"⟩
abbrev cX7_meaning : ByteArray := prog_9_method_7_code
def yX7_meaning : MethodName := ⟨RX7, "meaning", "(I)I"⟩
abbrev cX7_next : ByteArray := prog_9_method_8_code
def yX7_next : MethodName := ⟨RX7, "next", "()V"⟩
abbrev cX7_due : ByteArray := prog_9_method_9_code
def yX7_due : MethodName := ⟨RX7, "due", "(Z)I"⟩
abbrev cX7_number : ByteArray := prog_9_method_10_code
def yX7_number : MethodName := ⟨RX7, "number", "(I)I"⟩
abbrev cX7_readItem : ByteArray := prog_9_method_11_code
def yX7_readItem : MethodName := ⟨RX7, "readItem", "()V"⟩
abbrev cX7_valley : ByteArray := prog_9_method_12_code
def yX7_valley : MethodName := ⟨RX7, "valley", "()I"⟩
abbrev cX7_isHouse : ByteArray := prog_9_method_13_code
def yX7_isHouse : MethodName := ⟨RX7, "isHouse", "(I)Z"⟩
abbrev cX7_isDish : ByteArray := prog_9_method_14_code
def yX7_isDish : MethodName := ⟨RX7, "isDish", "(I)Z"⟩
abbrev cX7_isSmoke : ByteArray := prog_9_method_15_code
def yX7_isSmoke : MethodName := ⟨RX7, "isSmoke", "(I)Z"⟩
abbrev cX7_unitsOf : ByteArray := prog_9_method_16_code
def yX7_unitsOf : MethodName := ⟨RX7, "unitsOf", "(I)I"⟩
abbrev cX7_storeOf : ByteArray := prog_9_method_17_code
def yX7_storeOf : MethodName := ⟨RX7, "storeOf", "(I)I"⟩
abbrev cX7_house : ByteArray := prog_9_method_18_code
def yX7_house : MethodName := ⟨RX7, "house", "(II)I"⟩
abbrev cX7_dish : ByteArray := prog_9_method_19_code
def yX7_dish : MethodName := ⟨RX7, "dish", "(II)I"⟩
abbrev cX7_canCook : ByteArray := prog_9_method_20_code
def yX7_canCook : MethodName := ⟨RX7, "canCook", "(II)Z"⟩
abbrev cX7_cook : ByteArray := prog_9_method_21_code
def yX7_cook : MethodName := ⟨RX7, "cook", "(II)I"⟩
abbrev cX7_undo : ByteArray := prog_9_method_22_code
def yX7_undo : MethodName := ⟨RX7, "undo", "()I"⟩
abbrev cX7_gives : ByteArray := prog_9_method_23_code
def yX7_gives : MethodName := ⟨RX7, "gives", "(IIII)I"⟩
abbrev cX7_burns : ByteArray := prog_9_method_24_code
def yX7_burns : MethodName := ⟨RX7, "burns", "(I)I"⟩
abbrev cX7_plume : ByteArray := prog_9_method_25_code
def yX7_plume : MethodName := ⟨RX7, "plume", "(II)I"⟩
abbrev cX7_fog : ByteArray := prog_9_method_26_code
def yX7_fog : MethodName := ⟨RX7, "fog", "(I)I"⟩
abbrev cX7_areWords : ByteArray := prog_9_method_27_code
def yX7_areWords : MethodName := ⟨RX7, "areWords", "(III)Z"⟩
abbrev cX7_hasAll : ByteArray := prog_9_method_28_code
def yX7_hasAll : MethodName := ⟨RX7, "hasAll", "(I)Z"⟩
abbrev cX7_isRow : ByteArray := prog_9_method_29_code
def yX7_isRow : MethodName := ⟨RX7, "isRow", "(II)Z"⟩
abbrev cX7_ask : ByteArray := prog_9_method_30_code
def yX7_ask : MethodName := ⟨RX7, "ask", "(III)V"⟩
abbrev cX7_unitsFor : ByteArray := prog_9_method_31_code
def yX7_unitsFor : MethodName := ⟨RX7, "unitsFor", "(II)I"⟩
abbrev cX7_says : ByteArray := prog_9_method_32_code
def yX7_says : MethodName := ⟨RX7, "says", "(IIIII)I"⟩
abbrev cX7_bitsIn : ByteArray := prog_9_method_33_code
def yX7_bitsIn : MethodName := ⟨RX7, "bitsIn", "(I)I"⟩
abbrev cX7_nearest : ByteArray := prog_9_method_34_code
def yX7_nearest : MethodName := ⟨RX7, "nearest", "(IIII)I"⟩
abbrev cX7_readAs : ByteArray := prog_9_method_35_code
def yX7_readAs : MethodName := ⟨RX7, "readAs", "(II)I"⟩
abbrev cX7_reads : ByteArray := prog_9_method_36_code
def yX7_reads : MethodName := ⟨RX7, "reads", "(II)I"⟩
abbrev cX7_meant : ByteArray := prog_9_method_37_code
def yX7_meant : MethodName := ⟨RX7, "meant", "(I)I"⟩
abbrev cX7_means : ByteArray := prog_9_method_38_code
def yX7_means : MethodName := ⟨RX7, "means", "(I)I"⟩
abbrev cX7_leastOf : ByteArray := prog_9_method_39_code
def yX7_leastOf : MethodName := ⟨RX7, "leastOf", "(I)I"⟩
abbrev cX7_common : ByteArray := prog_9_method_40_code
def yX7_common : MethodName := ⟨RX7, "common", "(JJ)J"⟩
abbrev cX7_chain : ByteArray := prog_9_method_41_code
def yX7_chain : MethodName := ⟨RX7, "chain", "(III)J"⟩
abbrev cX7_who : ByteArray := prog_9_method_42_code
def yX7_who : MethodName := ⟨RX7, "who", "(III)I"⟩
abbrev cX7_nextSupper : ByteArray := prog_9_method_43_code
def yX7_nextSupper : MethodName := ⟨RX7, "nextSupper", "()I"⟩
abbrev cX7_days : ByteArray := prog_9_method_44_code
def yX7_days : MethodName := ⟨RX7, "days", "(I)I"⟩
abbrev cX7_saidBy : ByteArray := prog_9_method_45_code
def yX7_saidBy : MethodName := ⟨RX7, "saidBy", "(III)I"⟩
abbrev cX7_code : ByteArray := prog_9_method_46_code
def yX7_code : MethodName := ⟨RX7, "code", "(III)I"⟩
abbrev cX7_feast : ByteArray := prog_9_method_47_code
def yX7_feast : MethodName := ⟨RX7, "feast", "(II)I"⟩
abbrev cX7_silent : ByteArray := prog_9_method_48_code
def yX7_silent : MethodName := ⟨RX7, "silent", "(I)I"⟩
abbrev cX7_drawn : ByteArray := prog_9_method_49_code
def yX7_drawn : MethodName := ⟨RX7, "drawn", "(I)I"⟩
abbrev cX7_lot : ByteArray := prog_9_method_50_code
def yX7_lot : MethodName := ⟨RX7, "lot", "(I)I"⟩
abbrev cX7_mark : ByteArray := prog_9_method_51_code
def yX7_mark : MethodName := ⟨RX7, "mark", "(II)I"⟩
abbrev cX7_copy : ByteArray := prog_9_method_52_code
def yX7_copy : MethodName := ⟨RX7, "copy", "(II)V"⟩
abbrev cX7_keep : ByteArray := prog_9_method_53_code
def yX7_keep : MethodName := ⟨RX7, "keep", "(I)I"⟩
abbrev cX7_back : ByteArray := prog_9_method_54_code
def yX7_back : MethodName := ⟨RX7, "back", "(I)I"⟩
abbrev cX7_count : ByteArray := prog_9_method_55_code
def yX7_count : MethodName := ⟨RX7, "count", "(I)I"⟩
abbrev cX7_trace : ByteArray := prog_9_method_56_code
def yX7_trace : MethodName := ⟨RX7, "trace", "()J"⟩
def RJ6 : String := "java/lang/Integer"
def TJ6 : u_T := fun k => match k with
  | _ => ("", "", "", false)
def tyJ6 : Nat → FieldType := fun k => match k with
  | _ => .int
abbrev wsJ60 : List Cond := u_ws RJ6 TJ6 0
theorem nmJ6 : ∀ a, a < 0 → ∀ b, b < 0 → a ≠ b → (TJ6 a).2.1 ≠ (TJ6 b).2.1 := by decide +kernel
theorem tyJ6_ok : ∀ k, k < 0 → parseFieldDescriptor (TJ6 k).2.2.1 = some (tyJ6 k) := by decide +kernel
abbrev cJ6_bitCount_0f7a4 : ByteArray := prog_10_method_49_code
def yJ6_bitCount_0f7a4 : MethodName := ⟨RJ6, "bitCount", "(I)I"⟩
def RJ9 : String := "java/lang/Math"
def TJ9 : u_T := fun k => match k with
  | _ => ("", "", "", false)
def tyJ9 : Nat → FieldType := fun k => match k with
  | _ => .int
abbrev wsJ90 : List Cond := u_ws RJ9 TJ9 0
theorem nmJ9 : ∀ a, a < 0 → ∀ b, b < 0 → a ≠ b → (TJ9 a).2.1 ≠ (TJ9 b).2.1 := by decide +kernel
theorem tyJ9_ok : ∀ k, k < 0 → parseFieldDescriptor (TJ9 k).2.2.1 = some (tyJ9 k) := by decide +kernel
abbrev cJ9_max_7cf53 : ByteArray := prog_11_method_65_code
def yJ9_max_7cf53 : MethodName := ⟨RJ9, "max", "(II)I"⟩
abbrev cJ9_min_7cf53 : ByteArray := prog_11_method_69_code
def yJ9_min_7cf53 : MethodName := ⟨RJ9, "min", "(II)I"⟩
def RJ0 : String := "java/lang/String"
def TJ0 : u_T := fun k => match k with
  | _ => ("", "", "", false)
def tyJ0 : Nat → FieldType := fun k => match k with
  | _ => .int
abbrev wsJ00 : List Cond := u_ws RJ0 TJ0 0
theorem nmJ0 : ∀ a, a < 0 → ∀ b, b < 0 → a ≠ b → (TJ0 a).2.1 ≠ (TJ0 b).2.1 := by decide +kernel
theorem tyJ0_ok : ∀ k, k < 0 → parseFieldDescriptor (TJ0 k).2.2.1 = some (tyJ0 k) := by decide +kernel
abbrev cJ0_length_8abf5 : ByteArray := prog_12_method_54_code
def yJ0_length_8abf5 : MethodName := ⟨RJ0, "length", "()I"⟩
abbrev cJ0_charAt_5068e : ByteArray := prog_12_method_56_code
def yJ0_charAt_5068e : MethodName := ⟨RJ0, "charAt", "(I)C"⟩
abbrev cJ0_coder_7d493 : ByteArray := prog_12_method_152_code
def yJ0_coder_7d493 : MethodName := ⟨RJ0, "coder", "()B"⟩
abbrev cJ0_isLatin1_aae02 : ByteArray := prog_12_method_154_code
def yJ0_isLatin1_aae02 : MethodName := ⟨RJ0, "isLatin1", "()Z"⟩
abbrev cJ0_checkIndex_df160 : ByteArray := prog_12_method_155_code
def yJ0_checkIndex_df160 : MethodName := ⟨RJ0, "checkIndex", "(II)V"⟩
def RJ1 : String := "java/lang/StringLatin1"
def TJ1 : u_T := fun k => match k with
  | _ => ("", "", "", false)
def tyJ1 : Nat → FieldType := fun k => match k with
  | _ => .int
abbrev wsJ10 : List Cond := u_ws RJ1 TJ1 0
theorem nmJ1 : ∀ a, a < 0 → ∀ b, b < 0 → a ≠ b → (TJ1 a).2.1 ≠ (TJ1 b).2.1 := by decide +kernel
theorem tyJ1_ok : ∀ k, k < 0 → parseFieldDescriptor (TJ1 k).2.2.1 = some (tyJ1 k) := by decide +kernel
abbrev cJ1_charAt_3b067 : ByteArray := prog_13_method_2_code
def yJ1_charAt_3b067 : MethodName := ⟨RJ1, "charAt", "([BI)C"⟩
def RJ2 : String := "java/lang/StringUTF16"
def TJ2 : u_T := fun k => match k with
  | _ => ("", "", "", false)
def tyJ2 : Nat → FieldType := fun k => match k with
  | _ => .int
abbrev wsJ20 : List Cond := u_ws RJ2 TJ2 0
theorem nmJ2 : ∀ a, a < 0 → ∀ b, b < 0 → a ≠ b → (TJ2 a).2.1 ≠ (TJ2 b).2.1 := by decide +kernel
theorem tyJ2_ok : ∀ k, k < 0 → parseFieldDescriptor (TJ2 k).2.2.1 = some (tyJ2 k) := by decide +kernel
abbrev cJ2_getChar_3b067 : ByteArray := prog_14_method_5_code
def yJ2_getChar_3b067 : MethodName := ⟨RJ2, "getChar", "([BI)C"⟩
abbrev cJ2_length_9d52b : ByteArray := prog_14_method_6_code
def yJ2_length_9d52b : MethodName := ⟨RJ2, "length", "([B)I"⟩
abbrev cJ2_charAt_3b067 : ByteArray := prog_14_method_83_code
def yJ2_charAt_3b067 : MethodName := ⟨RJ2, "charAt", "([BI)C"⟩
abbrev cJ2_checkIndex_2214a : ByteArray := prog_14_method_91_code
def yJ2_checkIndex_2214a : MethodName := ⟨RJ2, "checkIndex", "(I[B)V"⟩
def RJ3 : String := "jdk/internal/util/Preconditions"
def TJ3 : u_T := fun k => match k with
  | _ => ("", "", "", false)
def tyJ3 : Nat → FieldType := fun k => match k with
  | _ => .int
abbrev wsJ30 : List Cond := u_ws RJ3 TJ3 0
theorem nmJ3 : ∀ a, a < 0 → ∀ b, b < 0 → a ≠ b → (TJ3 a).2.1 ≠ (TJ3 b).2.1 := by decide +kernel
theorem tyJ3_ok : ∀ k, k < 0 → parseFieldDescriptor (TJ3 k).2.2.1 = some (tyJ3 k) := by decide +kernel
abbrev cJ3_checkIndex_8e157 : ByteArray := prog_15_method_11_code
def yJ3_checkIndex_8e157 : MethodName := ⟨RJ3, "checkIndex", "(IILjava/util/function/BiFunction;)I"⟩
def RL : String := "SmokeTalkLaw"
abbrev cL_law : ByteArray := code
def yL_law : MethodName := ⟨RL, "law", "([I)Z"⟩
abbrev vwCl : List vw_C := [(RX0, TX0, 2), (RX1, TX1, 5), (RX2, TX2, 6), (RX3, TX3, 8), (RX4, TX4, 4), (RX5, TX5, 6), (RX6, TX6, 10), (RX7, TX7, 24)]
/-- the words that every contract carries: those of the tables that a call may hand on -/
def UU : List Cond := lw_tbl.filter goodWord
theorem uu {w : Cond} (i : Nat) (h : lw_tbl[i]? = some w) (hg : goodWord w = true) : w ∈ UU := List.mem_filter.mpr ⟨List.mem_of_getElem? h, hg⟩
theorem UU_in : ∀ w ∈ UU, w ∈ lw_tbl := fun _ h => (List.mem_filter.mp h).1
theorem UU_good : ∀ w ∈ UU, goodWord w = true := fun _ h => (List.mem_filter.mp h).2
abbrev wsY (y : MethodName) (b : ByteArray) (n : Nat) (ret : Option FieldType) : List Cond := Cond.code y b n ret :: UU
theorem goodY {y : MethodName} {b : ByteArray} {n : Nat} {ret : Option FieldType} (hc : Cond.code y b n ret ∈ UU) : GoodIn UU (wsY y b n ret) := fun w h => (List.mem_cons.mp h).elim (fun e => e ▸ ⟨hc, good_of_word (UU_good _ hc)⟩) (fun h => ⟨h, good_of_word (UU_good _ h)⟩)
