theorem u0 : (Cond.selects "SmokeTalk$Text" ⟨"SmokeTalk$Text", "readNumber", "()I"⟩ ⟨"SmokeTalk$Text", "readNumber", "()I"⟩) ∈ UU := uu 0 (by decide +kernel) rfl
theorem u1 : (Cond.selects "SmokeTalk$Text" ⟨"SmokeTalk$Text", "readName", "()I"⟩ ⟨"SmokeTalk$Text", "readName", "()I"⟩) ∈ UU := uu 1 (by decide +kernel) rfl
theorem u2 : (Cond.selects "SmokeTalk$Text" ⟨"SmokeTalk$Text", "spells", "(Ljava/lang/String;)Z"⟩ ⟨"SmokeTalk$Text", "spells", "(Ljava/lang/String;)Z"⟩) ∈ UU := uu 2 (by decide +kernel) rfl
theorem u3 : (Cond.selects "SmokeTalk$Telling" ⟨"SmokeTalk$Telling", "readItem", "(LSmokeTalk$Text;)Z"⟩ ⟨"SmokeTalk$Telling", "readItem", "(LSmokeTalk$Text;)Z"⟩) ∈ UU := uu 3 (by decide +kernel) rfl
theorem u4 : (Cond.selects "SmokeTalk$Telling" ⟨"SmokeTalk$Telling", "mayBegin", "(I)Z"⟩ ⟨"SmokeTalk$Telling", "mayBegin", "(I)Z"⟩) ∈ UU := uu 4 (by decide +kernel) rfl
theorem u5 : (Cond.selects "SmokeTalk$Telling" ⟨"SmokeTalk$Telling", "draft", "(I)V"⟩ ⟨"SmokeTalk$Telling", "draft", "(I)V"⟩) ∈ UU := uu 5 (by decide +kernel) rfl
theorem u6 : (Cond.selects "SmokeTalk" ⟨"SmokeTalk", "couldCook", "(II)Z"⟩ ⟨"SmokeTalk", "couldCook", "(II)Z"⟩) ∈ UU := uu 6 (by decide +kernel) rfl
theorem u7 : (Cond.selects "SmokeTalk$Speech" ⟨"SmokeTalk$Speech", "compare", "(I)V"⟩ ⟨"SmokeTalk$Speech", "compare", "(I)V"⟩) ∈ UU := uu 7 (by decide +kernel) rfl
theorem u8 : (Cond.selects "SmokeTalk" ⟨"SmokeTalk", "weightOf", "(II)I"⟩ ⟨"SmokeTalk", "weightOf", "(II)I"⟩) ∈ UU := uu 8 (by decide +kernel) rfl
theorem u9 : (Cond.selects "SmokeTalk$Menu" ⟨"SmokeTalk$Menu", "standsOff", "(III)Z"⟩ ⟨"SmokeTalk$Menu", "standsOff", "(III)Z"⟩) ∈ UU := uu 9 (by decide +kernel) rfl
theorem u10 : (Cond.selects "SmokeTalk" ⟨"SmokeTalk", "markOfDish", "(I)I"⟩ ⟨"SmokeTalk", "markOfDish", "(I)I"⟩) ∈ UU := uu 10 (by decide +kernel) rfl
theorem u11 : (Cond.selects "SmokeTalk" ⟨"SmokeTalk", "markOfStew", "(I)I"⟩ ⟨"SmokeTalk", "markOfStew", "(I)I"⟩) ∈ UU := uu 11 (by decide +kernel) rfl
theorem u12 : (Cond.selects "SmokeTalk" ⟨"SmokeTalk", "markOfRoast", "(I)I"⟩ ⟨"SmokeTalk", "markOfRoast", "(I)I"⟩) ∈ UU := uu 12 (by decide +kernel) rfl
theorem u13 : (Cond.selects "SmokeTalk" ⟨"SmokeTalk", "markOfBrides", "(I)I"⟩ ⟨"SmokeTalk", "markOfBrides", "(I)I"⟩) ∈ UU := uu 13 (by decide +kernel) rfl
theorem u14 : (Cond.selects "SmokeTalk" ⟨"SmokeTalk", "markOfPoor", "(I)I"⟩ ⟨"SmokeTalk", "markOfPoor", "(I)I"⟩) ∈ UU := uu 14 (by decide +kernel) rfl
theorem u15 : (Cond.selects "SmokeTalk" ⟨"SmokeTalk", "markOfBurnt", "(I)I"⟩ ⟨"SmokeTalk", "markOfBurnt", "(I)I"⟩) ∈ UU := uu 15 (by decide +kernel) rfl
theorem u16 : (Cond.selects "SmokeTalk" ⟨"SmokeTalk", "imageOf", "(I)LSmokeTalk$Suppers;"⟩ ⟨"SmokeTalk", "imageOf", "(I)LSmokeTalk$Suppers;"⟩) ∈ UU := uu 16 (by decide +kernel) rfl
theorem u17 : (Cond.selects "SmokeTalkModel" ⟨"SmokeTalkModel", "next", "()V"⟩ ⟨"SmokeTalkModel", "next", "()V"⟩) ∈ UU := uu 17 (by decide +kernel) rfl
theorem u18 : (Cond.selects "SmokeTalkModel" ⟨"SmokeTalkModel", "here", "()I"⟩ ⟨"SmokeTalkModel", "here", "()I"⟩) ∈ UU := uu 18 (by decide +kernel) rfl
theorem u19 : (Cond.selects "SmokeTalkModel" ⟨"SmokeTalkModel", "readItem", "()V"⟩ ⟨"SmokeTalkModel", "readItem", "()V"⟩) ∈ UU := uu 19 (by decide +kernel) rfl
theorem u20 : (Cond.selects "SmokeTalkModel" ⟨"SmokeTalkModel", "due", "(Z)I"⟩ ⟨"SmokeTalkModel", "due", "(Z)I"⟩) ∈ UU := uu 20 (by decide +kernel) rfl
theorem u21 : (Cond.selects "SmokeTalkModel" ⟨"SmokeTalkModel", "number", "(I)I"⟩ ⟨"SmokeTalkModel", "number", "(I)I"⟩) ∈ UU := uu 21 (by decide +kernel) rfl
theorem u22 : (Cond.selects "SmokeTalkModel" ⟨"SmokeTalkModel", "isHouse", "(I)Z"⟩ ⟨"SmokeTalkModel", "isHouse", "(I)Z"⟩) ∈ UU := uu 22 (by decide +kernel) rfl
theorem u23 : (Cond.selects "SmokeTalkModel" ⟨"SmokeTalkModel", "storeOf", "(I)I"⟩ ⟨"SmokeTalkModel", "storeOf", "(I)I"⟩) ∈ UU := uu 23 (by decide +kernel) rfl
theorem u24 : (Cond.selects "SmokeTalkModel" ⟨"SmokeTalkModel", "isDish", "(I)Z"⟩ ⟨"SmokeTalkModel", "isDish", "(I)Z"⟩) ∈ UU := uu 24 (by decide +kernel) rfl
theorem u25 : (Cond.selects "SmokeTalkModel" ⟨"SmokeTalkModel", "unitsOf", "(I)I"⟩ ⟨"SmokeTalkModel", "unitsOf", "(I)I"⟩) ∈ UU := uu 25 (by decide +kernel) rfl
theorem u26 : (Cond.selects "SmokeTalkModel" ⟨"SmokeTalkModel", "canCook", "(II)Z"⟩ ⟨"SmokeTalkModel", "canCook", "(II)Z"⟩) ∈ UU := uu 26 (by decide +kernel) rfl
theorem u27 : (Cond.selects "SmokeTalkModel" ⟨"SmokeTalkModel", "ask", "(III)V"⟩ ⟨"SmokeTalkModel", "ask", "(III)V"⟩) ∈ UU := uu 27 (by decide +kernel) rfl
theorem u28 : (Cond.selects "SmokeTalkModel" ⟨"SmokeTalkModel", "unitsFor", "(II)I"⟩ ⟨"SmokeTalkModel", "unitsFor", "(II)I"⟩) ∈ UU := uu 28 (by decide +kernel) rfl
theorem u29 : (Cond.selects "SmokeTalkModel" ⟨"SmokeTalkModel", "isRow", "(II)Z"⟩ ⟨"SmokeTalkModel", "isRow", "(II)Z"⟩) ∈ UU := uu 29 (by decide +kernel) rfl
theorem u30 : (Cond.selects "SmokeTalkModel" ⟨"SmokeTalkModel", "hasAll", "(I)Z"⟩ ⟨"SmokeTalkModel", "hasAll", "(I)Z"⟩) ∈ UU := uu 30 (by decide +kernel) rfl
theorem u31 : (Cond.selects "SmokeTalkModel" ⟨"SmokeTalkModel", "readAs", "(II)I"⟩ ⟨"SmokeTalkModel", "readAs", "(II)I"⟩) ∈ UU := uu 31 (by decide +kernel) rfl
theorem u32 : (Cond.selects "SmokeTalkModel" ⟨"SmokeTalkModel", "meant", "(I)I"⟩ ⟨"SmokeTalkModel", "meant", "(I)I"⟩) ∈ UU := uu 32 (by decide +kernel) rfl
theorem u33 : (Cond.selects "SmokeTalkModel" ⟨"SmokeTalkModel", "leastOf", "(I)I"⟩ ⟨"SmokeTalkModel", "leastOf", "(I)I"⟩) ∈ UU := uu 33 (by decide +kernel) rfl
theorem u34 : (Cond.selects "SmokeTalkModel" ⟨"SmokeTalkModel", "nextSupper", "()I"⟩ ⟨"SmokeTalkModel", "nextSupper", "()I"⟩) ∈ UU := uu 34 (by decide +kernel) rfl
theorem u35 : (Cond.selects "SmokeTalkModel" ⟨"SmokeTalkModel", "saidBy", "(III)I"⟩ ⟨"SmokeTalkModel", "saidBy", "(III)I"⟩) ∈ UU := uu 35 (by decide +kernel) rfl
theorem u36 : (Cond.selects "SmokeTalkModel" ⟨"SmokeTalkModel", "copy", "(II)V"⟩ ⟨"SmokeTalkModel", "copy", "(II)V"⟩) ∈ UU := uu 36 (by decide +kernel) rfl
theorem u37 : (Cond.initialized "SmokeTalkLaw") ∈ UU := uu 37 (by decide +kernel) rfl
theorem u38 : (Cond.initialized "SmokeTalk") ∈ UU := uu 38 (by decide +kernel) rfl
theorem u39 : (Cond.initialized "SmokeTalk$Text") ∈ UU := uu 39 (by decide +kernel) rfl
theorem u40 : (Cond.initialized "SmokeTalk$Telling") ∈ UU := uu 40 (by decide +kernel) rfl
theorem u41 : (Cond.initialized "SmokeTalk$Menu") ∈ UU := uu 41 (by decide +kernel) rfl
theorem u42 : (Cond.initialized "SmokeTalk$Suppers") ∈ UU := uu 42 (by decide +kernel) rfl
theorem u43 : (Cond.initialized "SmokeTalk$Speech") ∈ UU := uu 43 (by decide +kernel) rfl
theorem u44 : (Cond.initialized "SmokeTalk$Chain") ∈ UU := uu 44 (by decide +kernel) rfl
theorem u45 : (Cond.initialized "SmokeTalkModel") ∈ UU := uu 45 (by decide +kernel) rfl
theorem u46 : (Cond.initialized "java/lang/String") ∈ UU := uu 46 (by decide +kernel) rfl
theorem u47 : (Cond.initialized "java/lang/StringLatin1") ∈ UU := uu 47 (by decide +kernel) rfl
theorem u48 : (Cond.initialized "jdk/internal/util/Preconditions") ∈ UU := uu 48 (by decide +kernel) rfl
theorem u49 : (Cond.initialized "java/lang/StringUTF16") ∈ UU := uu 49 (by decide +kernel) rfl
theorem u50 : (Cond.initialized "java/lang/Math") ∈ UU := uu 50 (by decide +kernel) rfl
theorem u51 : (Cond.initialized "java/lang/Integer") ∈ UU := uu 51 (by decide +kernel) rfl
theorem u52 : (Cond.classLink "SmokeTalkLaw" (7 : Nat) "SmokeTalk") ∈ UU := uu 52 (by decide +kernel) rfl
theorem u53 : (Cond.instantiable "SmokeTalk" (10 : Nat)) ∈ UU := uu 53 (by decide +kernel) rfl
theorem u54 : (Cond.methodLink "SmokeTalkLaw" (9 : Nat) ({ cls := "SmokeTalk", name := "<init>", desc := "()V" } : MethodName)) ∈ UU := uu 54 (by decide +kernel) rfl
theorem u55 : (Cond.instanceMethod ({ cls := "SmokeTalk", name := "<init>", desc := "()V" } : MethodName)) ∈ UU := uu 55 (by decide +kernel) rfl
theorem u56 : (Cond.code ({ cls := "SmokeTalk", name := "<init>", desc := "()V" } : MethodName) prog_1_method_1_code (1 : Nat) (Option.none : Option FieldType)) ∈ UU := uu 56 (by decide +kernel) rfl
theorem u57 : (Cond.methodLink "SmokeTalk" (1 : Nat) ({ cls := "java/lang/Object", name := "<init>", desc := "()V" } : MethodName)) ∈ UU := uu 57 (by decide +kernel) rfl
theorem u58 : (Cond.instanceMethod ({ cls := "java/lang/Object", name := "<init>", desc := "()V" } : MethodName)) ∈ UU := uu 58 (by decide +kernel) rfl
theorem u59 : (Cond.code ({ cls := "java/lang/Object", name := "<init>", desc := "()V" } : MethodName) object_method_1_code (1 : Nat) (Option.none : Option FieldType)) ∈ UU := uu 59 (by decide +kernel) rfl
theorem u60 : (Cond.classLink "SmokeTalk" (7 : Nat) "SmokeTalk$Text") ∈ UU := uu 60 (by decide +kernel) rfl
theorem u61 : (Cond.instantiable "SmokeTalk$Text" (6 : Nat)) ∈ UU := uu 61 (by decide +kernel) rfl
theorem u62 : (Cond.methodLink "SmokeTalk" (9 : Nat) ({ cls := "SmokeTalk$Text", name := "<init>", desc := "()V" } : MethodName)) ∈ UU := uu 62 (by decide +kernel) rfl
theorem u63 : (Cond.instanceMethod ({ cls := "SmokeTalk$Text", name := "<init>", desc := "()V" } : MethodName)) ∈ UU := uu 63 (by decide +kernel) rfl
theorem u64 : (Cond.code ({ cls := "SmokeTalk$Text", name := "<init>", desc := "()V" } : MethodName) prog_7_method_1_code (1 : Nat) (Option.none : Option FieldType)) ∈ UU := uu 64 (by decide +kernel) rfl
theorem u65 : (Cond.methodLink "SmokeTalk$Text" (3 : Nat) ({ cls := "java/lang/Object", name := "<init>", desc := "()V" } : MethodName)) ∈ UU := uu 65 (by decide +kernel) rfl
theorem u66 : (Cond.fieldLink "SmokeTalk$Text" (9 : Nat) "SmokeTalk$Text" "bytes" "[I") ∈ UU := uu 66 (by decide +kernel) rfl
theorem u67 : (Cond.fieldLink "SmokeTalk$Text" (15 : Nat) "SmokeTalk$Text" "length" "I") ∈ UU := uu 67 (by decide +kernel) rfl
theorem u68 : (Cond.fieldLink "SmokeTalk" (65 : Nat) "SmokeTalk$Text" "length" "I") ∈ UU := uu 68 (by decide +kernel) rfl
theorem u69 : (Cond.fieldLink "SmokeTalk$Text" (19 : Nat) "SmokeTalk$Text" "at" "I") ∈ UU := uu 69 (by decide +kernel) rfl
theorem u70 : (Cond.fieldLink "SmokeTalk" (77 : Nat) "SmokeTalk$Text" "start" "I") ∈ UU := uu 70 (by decide +kernel) rfl
theorem u71 : (Cond.fieldLink "SmokeTalk$Text" (25 : Nat) "SmokeTalk$Text" "start" "I") ∈ UU := uu 71 (by decide +kernel) rfl
theorem u72 : (Cond.fieldLink "SmokeTalk$Telling" (51 : Nat) "SmokeTalk$Text" "token" "I") ∈ UU := uu 72 (by decide +kernel) rfl
theorem u73 : (Cond.fieldLink "SmokeTalk$Text" (31 : Nat) "SmokeTalk$Text" "token" "I") ∈ UU := uu 73 (by decide +kernel) rfl
theorem u74 : (Cond.fieldLink "SmokeTalk$Telling" (69 : Nat) "SmokeTalk$Text" "number" "I") ∈ UU := uu 74 (by decide +kernel) rfl
theorem u75 : (Cond.fieldLink "SmokeTalk$Text" (28 : Nat) "SmokeTalk$Text" "number" "I") ∈ UU := uu 75 (by decide +kernel) rfl
theorem u89 : (Cond.arrayClass FieldType.int) ∈ UU := uu 89 (by decide +kernel) rfl
theorem u90 : (Cond.classLink "SmokeTalk" (16 : Nat) "SmokeTalk$Telling") ∈ UU := uu 90 (by decide +kernel) rfl
theorem u91 : (Cond.instantiable "SmokeTalk$Telling" (4 : Nat)) ∈ UU := uu 91 (by decide +kernel) rfl
theorem u92 : (Cond.methodLink "SmokeTalk" (18 : Nat) ({ cls := "SmokeTalk$Telling", name := "<init>", desc := "()V" } : MethodName)) ∈ UU := uu 92 (by decide +kernel) rfl
theorem u93 : (Cond.instanceMethod ({ cls := "SmokeTalk$Telling", name := "<init>", desc := "()V" } : MethodName)) ∈ UU := uu 93 (by decide +kernel) rfl
theorem u94 : (Cond.code ({ cls := "SmokeTalk$Telling", name := "<init>", desc := "()V" } : MethodName) prog_6_method_1_code (1 : Nat) (Option.none : Option FieldType)) ∈ UU := uu 94 (by decide +kernel) rfl
theorem u95 : (Cond.methodLink "SmokeTalk$Telling" (3 : Nat) ({ cls := "java/lang/Object", name := "<init>", desc := "()V" } : MethodName)) ∈ UU := uu 95 (by decide +kernel) rfl
theorem u96 : (Cond.classLink "SmokeTalk$Telling" (9 : Nat) "SmokeTalk$Menu") ∈ UU := uu 96 (by decide +kernel) rfl
theorem u97 : (Cond.instantiable "SmokeTalk$Menu" (5 : Nat)) ∈ UU := uu 97 (by decide +kernel) rfl
theorem u98 : (Cond.methodLink "SmokeTalk$Telling" (11 : Nat) ({ cls := "SmokeTalk$Menu", name := "<init>", desc := "()V" } : MethodName)) ∈ UU := uu 98 (by decide +kernel) rfl
theorem u99 : (Cond.instanceMethod ({ cls := "SmokeTalk$Menu", name := "<init>", desc := "()V" } : MethodName)) ∈ UU := uu 99 (by decide +kernel) rfl
theorem u100 : (Cond.code ({ cls := "SmokeTalk$Menu", name := "<init>", desc := "()V" } : MethodName) prog_3_method_1_code (1 : Nat) (Option.none : Option FieldType)) ∈ UU := uu 100 (by decide +kernel) rfl
theorem u101 : (Cond.methodLink "SmokeTalk$Menu" (3 : Nat) ({ cls := "java/lang/Object", name := "<init>", desc := "()V" } : MethodName)) ∈ UU := uu 101 (by decide +kernel) rfl
theorem u102 : (Cond.fieldLink "SmokeTalk$Menu" (9 : Nat) "SmokeTalk$Menu" "needs" "[I") ∈ UU := uu 102 (by decide +kernel) rfl
theorem u103 : (Cond.fieldLink "SmokeTalk$Menu" (15 : Nat) "SmokeTalk$Menu" "units" "[I") ∈ UU := uu 103 (by decide +kernel) rfl
theorem u104 : (Cond.fieldLink "SmokeTalk$Speech" (65 : Nat) "SmokeTalk$Menu" "units" "[I") ∈ UU := uu 104 (by decide +kernel) rfl
theorem u105 : (Cond.fieldLink "SmokeTalk" (122 : Nat) "SmokeTalk$Menu" "units" "[I") ∈ UU := uu 105 (by decide +kernel) rfl
theorem u106 : (Cond.fieldLink "SmokeTalk$Menu" (18 : Nat) "SmokeTalk$Menu" "smokes" "[I") ∈ UU := uu 106 (by decide +kernel) rfl
theorem u107 : (Cond.fieldLink "SmokeTalk$Chain" (31 : Nat) "SmokeTalk$Menu" "smokes" "[I") ∈ UU := uu 107 (by decide +kernel) rfl
theorem u108 : (Cond.fieldLink "SmokeTalk" (116 : Nat) "SmokeTalk$Menu" "smokes" "[I") ∈ UU := uu 108 (by decide +kernel) rfl
theorem u109 : (Cond.fieldLink "SmokeTalk$Menu" (21 : Nat) "SmokeTalk$Menu" "words" "[I") ∈ UU := uu 109 (by decide +kernel) rfl
theorem u110 : (Cond.fieldLink "SmokeTalk$Speech" (54 : Nat) "SmokeTalk$Menu" "words" "[I") ∈ UU := uu 110 (by decide +kernel) rfl
theorem u111 : (Cond.fieldLink "SmokeTalk" (119 : Nat) "SmokeTalk$Menu" "words" "[I") ∈ UU := uu 111 (by decide +kernel) rfl
theorem u112 : (Cond.fieldLink "SmokeTalk$Menu" (24 : Nat) "SmokeTalk$Menu" "dishes" "I") ∈ UU := uu 112 (by decide +kernel) rfl
theorem u113 : (Cond.fieldLink "SmokeTalk$Telling" (33 : Nat) "SmokeTalk$Menu" "dishes" "I") ∈ UU := uu 113 (by decide +kernel) rfl
theorem u114 : (Cond.fieldLink "SmokeTalk$Speech" (49 : Nat) "SmokeTalk$Menu" "dishes" "I") ∈ UU := uu 114 (by decide +kernel) rfl
theorem u115 : (Cond.fieldLink "SmokeTalk" (234 : Nat) "SmokeTalk$Menu" "dishes" "I") ∈ UU := uu 115 (by decide +kernel) rfl
theorem u127 : (Cond.classLink "SmokeTalk$Telling" (18 : Nat) "SmokeTalk$Suppers") ∈ UU := uu 127 (by decide +kernel) rfl
theorem u128 : (Cond.instantiable "SmokeTalk$Suppers" (8 : Nat)) ∈ UU := uu 128 (by decide +kernel) rfl
theorem u129 : (Cond.methodLink "SmokeTalk$Telling" (20 : Nat) ({ cls := "SmokeTalk$Suppers", name := "<init>", desc := "()V" } : MethodName)) ∈ UU := uu 129 (by decide +kernel) rfl
theorem u130 : (Cond.instanceMethod ({ cls := "SmokeTalk$Suppers", name := "<init>", desc := "()V" } : MethodName)) ∈ UU := uu 130 (by decide +kernel) rfl
theorem u131 : (Cond.code ({ cls := "SmokeTalk$Suppers", name := "<init>", desc := "()V" } : MethodName) prog_5_method_1_code (1 : Nat) (Option.none : Option FieldType)) ∈ UU := uu 131 (by decide +kernel) rfl
theorem u132 : (Cond.methodLink "SmokeTalk$Suppers" (3 : Nat) ({ cls := "java/lang/Object", name := "<init>", desc := "()V" } : MethodName)) ∈ UU := uu 132 (by decide +kernel) rfl
theorem u133 : (Cond.fieldLink "SmokeTalk$Suppers" (9 : Nat) "SmokeTalk$Suppers" "larders" "[I") ∈ UU := uu 133 (by decide +kernel) rfl
theorem u134 : (Cond.fieldLink "SmokeTalk$Suppers" (15 : Nat) "SmokeTalk$Suppers" "plumeHouses" "[I") ∈ UU := uu 134 (by decide +kernel) rfl
theorem u135 : (Cond.fieldLink "SmokeTalk" (140 : Nat) "SmokeTalk$Suppers" "plumeHouses" "[I") ∈ UU := uu 135 (by decide +kernel) rfl
theorem u136 : (Cond.fieldLink "SmokeTalk$Suppers" (18 : Nat) "SmokeTalk$Suppers" "plumeDishes" "[I") ∈ UU := uu 136 (by decide +kernel) rfl
theorem u137 : (Cond.fieldLink "SmokeTalk" (143 : Nat) "SmokeTalk$Suppers" "plumeDishes" "[I") ∈ UU := uu 137 (by decide +kernel) rfl
theorem u138 : (Cond.fieldLink "SmokeTalk$Suppers" (21 : Nat) "SmokeTalk$Suppers" "houses" "I") ∈ UU := uu 138 (by decide +kernel) rfl
theorem u139 : (Cond.fieldLink "SmokeTalk$Telling" (37 : Nat) "SmokeTalk$Suppers" "houses" "I") ∈ UU := uu 139 (by decide +kernel) rfl
theorem u140 : (Cond.fieldLink "SmokeTalk" (216 : Nat) "SmokeTalk$Suppers" "houses" "I") ∈ UU := uu 140 (by decide +kernel) rfl
theorem u141 : (Cond.fieldLink "SmokeTalk$Suppers" (25 : Nat) "SmokeTalk$Suppers" "plumes" "I") ∈ UU := uu 141 (by decide +kernel) rfl
theorem u142 : (Cond.fieldLink "SmokeTalk$Telling" (40 : Nat) "SmokeTalk$Suppers" "plumes" "I") ∈ UU := uu 142 (by decide +kernel) rfl
theorem u143 : (Cond.fieldLink "SmokeTalk" (129 : Nat) "SmokeTalk$Suppers" "plumes" "I") ∈ UU := uu 143 (by decide +kernel) rfl
theorem u144 : (Cond.fieldLink "SmokeTalk$Suppers" (28 : Nat) "SmokeTalk$Suppers" "haze" "I") ∈ UU := uu 144 (by decide +kernel) rfl
theorem u145 : (Cond.fieldLink "SmokeTalk$Telling" (43 : Nat) "SmokeTalk$Suppers" "haze" "I") ∈ UU := uu 145 (by decide +kernel) rfl
theorem u146 : (Cond.fieldLink "SmokeTalk" (151 : Nat) "SmokeTalk$Suppers" "haze" "I") ∈ UU := uu 146 (by decide +kernel) rfl
theorem u147 : (Cond.fieldLink "SmokeTalk$Suppers" (31 : Nat) "SmokeTalk$Suppers" "lottery" "I") ∈ UU := uu 147 (by decide +kernel) rfl
theorem u148 : (Cond.fieldLink "SmokeTalk" (88 : Nat) "SmokeTalk$Suppers" "lottery" "I") ∈ UU := uu 148 (by decide +kernel) rfl
theorem u149 : (Cond.fieldLink "SmokeTalk$Suppers" (34 : Nat) "SmokeTalk$Suppers" "kept" "Z") ∈ UU := uu 149 (by decide +kernel) rfl
theorem u150 : (Cond.fieldLink "SmokeTalk" (94 : Nat) "SmokeTalk$Suppers" "kept" "Z") ∈ UU := uu 150 (by decide +kernel) rfl
theorem u168 : (Cond.fieldLink "SmokeTalk$Telling" (12 : Nat) "SmokeTalk$Telling" "menu" "LSmokeTalk$Menu;") ∈ UU := uu 168 (by decide +kernel) rfl
theorem u169 : (Cond.fieldLink "SmokeTalk" (80 : Nat) "SmokeTalk$Telling" "menu" "LSmokeTalk$Menu;") ∈ UU := uu 169 (by decide +kernel) rfl
theorem u170 : (Cond.fieldLink "SmokeTalk$Telling" (21 : Nat) "SmokeTalk$Telling" "suppers" "LSmokeTalk$Suppers;") ∈ UU := uu 170 (by decide +kernel) rfl
theorem u171 : (Cond.fieldLink "SmokeTalk" (85 : Nat) "SmokeTalk$Telling" "suppers" "LSmokeTalk$Suppers;") ∈ UU := uu 171 (by decide +kernel) rfl
theorem u172 : (Cond.fieldLink "SmokeTalk$Telling" (25 : Nat) "SmokeTalk$Telling" "numbers" "[I") ∈ UU := uu 172 (by decide +kernel) rfl
theorem u173 : (Cond.fieldLink "SmokeTalk$Telling" (29 : Nat) "SmokeTalk$Telling" "fogTold" "Z") ∈ UU := uu 173 (by decide +kernel) rfl
theorem u183 : (Cond.classLink "SmokeTalk" (23 : Nat) "SmokeTalk$Menu") ∈ UU := uu 183 (by decide +kernel) rfl
theorem u184 : (Cond.methodLink "SmokeTalk" (25 : Nat) ({ cls := "SmokeTalk$Menu", name := "<init>", desc := "()V" } : MethodName)) ∈ UU := uu 184 (by decide +kernel) rfl
theorem u185 : (Cond.classLink "SmokeTalk" (30 : Nat) "SmokeTalk$Suppers") ∈ UU := uu 185 (by decide +kernel) rfl
theorem u186 : (Cond.methodLink "SmokeTalk" (32 : Nat) ({ cls := "SmokeTalk$Suppers", name := "<init>", desc := "()V" } : MethodName)) ∈ UU := uu 186 (by decide +kernel) rfl
theorem u187 : (Cond.classLink "SmokeTalk" (43 : Nat) "SmokeTalk$Speech") ∈ UU := uu 187 (by decide +kernel) rfl
theorem u188 : (Cond.instantiable "SmokeTalk$Speech" (6 : Nat)) ∈ UU := uu 188 (by decide +kernel) rfl
theorem u189 : (Cond.methodLink "SmokeTalk" (45 : Nat) ({ cls := "SmokeTalk$Speech", name := "<init>", desc := "()V" } : MethodName)) ∈ UU := uu 189 (by decide +kernel) rfl
theorem u190 : (Cond.instanceMethod ({ cls := "SmokeTalk$Speech", name := "<init>", desc := "()V" } : MethodName)) ∈ UU := uu 190 (by decide +kernel) rfl
theorem u191 : (Cond.code ({ cls := "SmokeTalk$Speech", name := "<init>", desc := "()V" } : MethodName) prog_4_method_1_code (1 : Nat) (Option.none : Option FieldType)) ∈ UU := uu 191 (by decide +kernel) rfl
theorem u192 : (Cond.methodLink "SmokeTalk$Speech" (3 : Nat) ({ cls := "java/lang/Object", name := "<init>", desc := "()V" } : MethodName)) ∈ UU := uu 192 (by decide +kernel) rfl
theorem u193 : (Cond.fieldLink "SmokeTalk$Speech" (9 : Nat) "SmokeTalk$Speech" "row" "[I") ∈ UU := uu 193 (by decide +kernel) rfl
theorem u194 : (Cond.fieldLink "SmokeTalk$Speech" (15 : Nat) "SmokeTalk$Speech" "chosen" "[I") ∈ UU := uu 194 (by decide +kernel) rfl
theorem u195 : (Cond.fieldLink "SmokeTalk$Speech" (18 : Nat) "SmokeTalk$Speech" "best" "[I") ∈ UU := uu 195 (by decide +kernel) rfl
theorem u196 : (Cond.fieldLink "SmokeTalk" (175 : Nat) "SmokeTalk$Speech" "best" "[I") ∈ UU := uu 196 (by decide +kernel) rfl
theorem u197 : (Cond.fieldLink "SmokeTalk$Speech" (21 : Nat) "SmokeTalk$Speech" "left" "[I") ∈ UU := uu 197 (by decide +kernel) rfl
theorem u198 : (Cond.fieldLink "SmokeTalk" (161 : Nat) "SmokeTalk$Speech" "left" "[I") ∈ UU := uu 198 (by decide +kernel) rfl
theorem u199 : (Cond.fieldLink "SmokeTalk$Speech" (24 : Nat) "SmokeTalk$Speech" "told" "I") ∈ UU := uu 199 (by decide +kernel) rfl
theorem u200 : (Cond.fieldLink "SmokeTalk" (172 : Nat) "SmokeTalk$Speech" "told" "I") ∈ UU := uu 200 (by decide +kernel) rfl
theorem u201 : (Cond.fieldLink "SmokeTalk$Speech" (28 : Nat) "SmokeTalk$Speech" "fewest" "I") ∈ UU := uu 201 (by decide +kernel) rfl
theorem u215 : (Cond.classLink "SmokeTalk" (50 : Nat) "SmokeTalk$Chain") ∈ UU := uu 215 (by decide +kernel) rfl
theorem u216 : (Cond.instantiable "SmokeTalk$Chain" (2 : Nat)) ∈ UU := uu 216 (by decide +kernel) rfl
theorem u217 : (Cond.methodLink "SmokeTalk" (52 : Nat) ({ cls := "SmokeTalk$Chain", name := "<init>", desc := "()V" } : MethodName)) ∈ UU := uu 217 (by decide +kernel) rfl
theorem u218 : (Cond.instanceMethod ({ cls := "SmokeTalk$Chain", name := "<init>", desc := "()V" } : MethodName)) ∈ UU := uu 218 (by decide +kernel) rfl
theorem u219 : (Cond.code ({ cls := "SmokeTalk$Chain", name := "<init>", desc := "()V" } : MethodName) prog_2_method_1_code (1 : Nat) (Option.none : Option FieldType)) ∈ UU := uu 219 (by decide +kernel) rfl
theorem u220 : (Cond.methodLink "SmokeTalk$Chain" (3 : Nat) ({ cls := "java/lang/Object", name := "<init>", desc := "()V" } : MethodName)) ∈ UU := uu 220 (by decide +kernel) rfl
theorem u221 : (Cond.fieldLink "SmokeTalk$Chain" (9 : Nat) "SmokeTalk$Chain" "meant" "[J") ∈ UU := uu 221 (by decide +kernel) rfl
theorem u222 : (Cond.fieldLink "SmokeTalk" (212 : Nat) "SmokeTalk$Chain" "meant" "[J") ∈ UU := uu 222 (by decide +kernel) rfl
theorem u223 : (Cond.fieldLink "SmokeTalk$Chain" (15 : Nat) "SmokeTalk$Chain" "next" "[J") ∈ UU := uu 223 (by decide +kernel) rfl
theorem u229 : (Cond.arrayClass FieldType.long) ∈ UU := uu 229 (by decide +kernel) rfl
theorem u230 : (Cond.fieldLink "SmokeTalk" (10 : Nat) "SmokeTalk" "text" "LSmokeTalk$Text;") ∈ UU := uu 230 (by decide +kernel) rfl
theorem u231 : (Cond.fieldLink "SmokeTalk" (19 : Nat) "SmokeTalk" "telling" "LSmokeTalk$Telling;") ∈ UU := uu 231 (by decide +kernel) rfl
theorem u232 : (Cond.fieldLink "SmokeTalk" (26 : Nat) "SmokeTalk" "menu" "LSmokeTalk$Menu;") ∈ UU := uu 232 (by decide +kernel) rfl
theorem u233 : (Cond.fieldLink "SmokeTalk" (33 : Nat) "SmokeTalk" "now" "LSmokeTalk$Suppers;") ∈ UU := uu 233 (by decide +kernel) rfl
theorem u234 : (Cond.fieldLink "SmokeTalk" (37 : Nat) "SmokeTalk" "firstImage" "LSmokeTalk$Suppers;") ∈ UU := uu 234 (by decide +kernel) rfl
theorem u235 : (Cond.fieldLink "SmokeTalk" (40 : Nat) "SmokeTalk" "secondImage" "LSmokeTalk$Suppers;") ∈ UU := uu 235 (by decide +kernel) rfl
theorem u236 : (Cond.fieldLink "SmokeTalk" (46 : Nat) "SmokeTalk" "speech" "LSmokeTalk$Speech;") ∈ UU := uu 236 (by decide +kernel) rfl
theorem u237 : (Cond.fieldLink "SmokeTalk" (53 : Nat) "SmokeTalk" "links" "LSmokeTalk$Chain;") ∈ UU := uu 237 (by decide +kernel) rfl
theorem u238 : (Cond.fieldLink "SmokeTalk" (57 : Nat) "SmokeTalk" "pot" "[I") ∈ UU := uu 238 (by decide +kernel) rfl
theorem u239 : (Cond.fieldLink "SmokeTalk" (61 : Nat) "SmokeTalk" "traced" "J") ∈ UU := uu 239 (by decide +kernel) rfl
theorem u261 : (Cond.methodLink "SmokeTalkLaw" (15 : Nat) ({ cls := "SmokeTalk", name := "type", desc := "(JI)I" } : MethodName)) ∈ UU := uu 261 (by decide +kernel) rfl
theorem u262 : (Cond.instanceMethod ({ cls := "SmokeTalk", name := "type", desc := "(JI)I" } : MethodName)) ∈ UU := uu 262 (by decide +kernel) rfl
theorem u263 : (Cond.selects "SmokeTalk" ({ cls := "SmokeTalk", name := "type", desc := "(JI)I" } : MethodName) ({ cls := "SmokeTalk", name := "type", desc := "(JI)I" } : MethodName)) ∈ UU := uu 263 (by decide +kernel) rfl
theorem u264 : (Cond.code ({ cls := "SmokeTalk", name := "type", desc := "(JI)I" } : MethodName) prog_1_method_2_code (5 : Nat) (Option.some FieldType.int)) ∈ UU := uu 264 (by decide +kernel) rfl
theorem u265 : (Cond.methodLink "SmokeTalk" (69 : Nat) ({ cls := "SmokeTalk$Text", name := "append", desc := "(I)V" } : MethodName)) ∈ UU := uu 265 (by decide +kernel) rfl
theorem u266 : (Cond.instanceMethod ({ cls := "SmokeTalk$Text", name := "append", desc := "(I)V" } : MethodName)) ∈ UU := uu 266 (by decide +kernel) rfl
theorem u267 : (Cond.selects "SmokeTalk$Text" ({ cls := "SmokeTalk$Text", name := "append", desc := "(I)V" } : MethodName) ({ cls := "SmokeTalk$Text", name := "append", desc := "(I)V" } : MethodName)) ∈ UU := uu 267 (by decide +kernel) rfl
theorem u268 : (Cond.code ({ cls := "SmokeTalk$Text", name := "append", desc := "(I)V" } : MethodName) prog_7_method_2_code (2 : Nat) (Option.none : Option FieldType)) ∈ UU := uu 268 (by decide +kernel) rfl
theorem u269 : (Cond.methodLink "SmokeTalkLaw" (20 : Nat) ({ cls := "SmokeTalk", name := "clear", desc := "()I" } : MethodName)) ∈ UU := uu 269 (by decide +kernel) rfl
theorem u270 : (Cond.instanceMethod ({ cls := "SmokeTalk", name := "clear", desc := "()I" } : MethodName)) ∈ UU := uu 270 (by decide +kernel) rfl
theorem u271 : (Cond.selects "SmokeTalk" ({ cls := "SmokeTalk", name := "clear", desc := "()I" } : MethodName) ({ cls := "SmokeTalk", name := "clear", desc := "()I" } : MethodName)) ∈ UU := uu 271 (by decide +kernel) rfl
theorem u272 : (Cond.code ({ cls := "SmokeTalk", name := "clear", desc := "()I" } : MethodName) prog_1_method_3_code (2 : Nat) (Option.some FieldType.int)) ∈ UU := uu 272 (by decide +kernel) rfl
theorem u273 : (Cond.methodLink "SmokeTalkLaw" (25 : Nat) ({ cls := "SmokeTalk", name := "valley", desc := "()I" } : MethodName)) ∈ UU := uu 273 (by decide +kernel) rfl
theorem u274 : (Cond.instanceMethod ({ cls := "SmokeTalk", name := "valley", desc := "()I" } : MethodName)) ∈ UU := uu 274 (by decide +kernel) rfl
theorem u275 : (Cond.selects "SmokeTalk" ({ cls := "SmokeTalk", name := "valley", desc := "()I" } : MethodName) ({ cls := "SmokeTalk", name := "valley", desc := "()I" } : MethodName)) ∈ UU := uu 275 (by decide +kernel) rfl
theorem u276 : (Cond.code ({ cls := "SmokeTalk", name := "valley", desc := "()I" } : MethodName) prog_1_method_4_code (2 : Nat) (Option.some FieldType.int)) ∈ UU := uu 276 (by decide +kernel) rfl
theorem u277 : (Cond.methodLink "SmokeTalk" (73 : Nat) ({ cls := "SmokeTalk$Telling", name := "readAll", desc := "(LSmokeTalk$Text;)I" } : MethodName)) ∈ UU := uu 277 (by decide +kernel) rfl
theorem u278 : (Cond.instanceMethod ({ cls := "SmokeTalk$Telling", name := "readAll", desc := "(LSmokeTalk$Text;)I" } : MethodName)) ∈ UU := uu 278 (by decide +kernel) rfl
theorem u279 : (Cond.selects "SmokeTalk$Telling" ({ cls := "SmokeTalk$Telling", name := "readAll", desc := "(LSmokeTalk$Text;)I" } : MethodName) ({ cls := "SmokeTalk$Telling", name := "readAll", desc := "(LSmokeTalk$Text;)I" } : MethodName)) ∈ UU := uu 279 (by decide +kernel) rfl
theorem u280 : (Cond.code ({ cls := "SmokeTalk$Telling", name := "readAll", desc := "(LSmokeTalk$Text;)I" } : MethodName) prog_6_method_2_code (3 : Nat) (Option.some FieldType.int)) ∈ UU := uu 280 (by decide +kernel) rfl
theorem u281 : (Cond.methodLink "SmokeTalk$Telling" (46 : Nat) ({ cls := "SmokeTalk$Text", name := "rewind", desc := "()V" } : MethodName)) ∈ UU := uu 281 (by decide +kernel) rfl
theorem u282 : (Cond.instanceMethod ({ cls := "SmokeTalk$Text", name := "rewind", desc := "()V" } : MethodName)) ∈ UU := uu 282 (by decide +kernel) rfl
theorem u283 : (Cond.selects "SmokeTalk$Text" ({ cls := "SmokeTalk$Text", name := "rewind", desc := "()V" } : MethodName) ({ cls := "SmokeTalk$Text", name := "rewind", desc := "()V" } : MethodName)) ∈ UU := uu 283 (by decide +kernel) rfl
theorem u284 : (Cond.code ({ cls := "SmokeTalk$Text", name := "rewind", desc := "()V" } : MethodName) prog_7_method_3_code (1 : Nat) (Option.none : Option FieldType)) ∈ UU := uu 284 (by decide +kernel) rfl
theorem u285 : (Cond.methodLink "SmokeTalk$Text" (22 : Nat) ({ cls := "SmokeTalk$Text", name := "step", desc := "()V" } : MethodName)) ∈ UU := uu 285 (by decide +kernel) rfl
theorem u286 : (Cond.instanceMethod ({ cls := "SmokeTalk$Text", name := "step", desc := "()V" } : MethodName)) ∈ UU := uu 286 (by decide +kernel) rfl
theorem u287 : (Cond.selects "SmokeTalk$Text" ({ cls := "SmokeTalk$Text", name := "step", desc := "()V" } : MethodName) ({ cls := "SmokeTalk$Text", name := "step", desc := "()V" } : MethodName)) ∈ UU := uu 287 (by decide +kernel) rfl
theorem u288 : (Cond.code ({ cls := "SmokeTalk$Text", name := "step", desc := "()V" } : MethodName) prog_7_method_4_code (1 : Nat) (Option.none : Option FieldType)) ∈ UU := uu 288 (by decide +kernel) rfl
theorem u289 : (Cond.methodLink "SmokeTalk$Text" (34 : Nat) ({ cls := "SmokeTalk$Text", name := "isDigit", desc := "(I)Z" } : MethodName)) ∈ UU := uu 289 (by decide +kernel) rfl
theorem u290 : (Cond.static ({ cls := "SmokeTalk$Text", name := "isDigit", desc := "(I)Z" } : MethodName)) ∈ UU := uu 290 (by decide +kernel) rfl
theorem u291 : (Cond.code ({ cls := "SmokeTalk$Text", name := "isDigit", desc := "(I)Z" } : MethodName) prog_7_method_8_code (1 : Nat) (Option.some FieldType.boolean)) ∈ UU := uu 291 (by decide +kernel) rfl
theorem u292 : (Cond.methodLink "SmokeTalk$Text" (38 : Nat) ({ cls := "SmokeTalk$Text", name := "readNumber", desc := "()I" } : MethodName)) ∈ UU := uu 292 (by decide +kernel) rfl
theorem u294 : (Cond.instanceMethod ({ cls := "SmokeTalk$Text", name := "readNumber", desc := "()I" } : MethodName)) ∈ UU := uu 294 (by decide +kernel) rfl
theorem u295 : (Cond.code ({ cls := "SmokeTalk$Text", name := "readNumber", desc := "()I" } : MethodName) prog_7_method_5_code (3 : Nat) (Option.some FieldType.int)) ∈ UU := uu 295 (by decide +kernel) rfl
theorem u296 : (Cond.methodLink "SmokeTalk$Text" (42 : Nat) ({ cls := "SmokeTalk$Text", name := "isLetter", desc := "(I)Z" } : MethodName)) ∈ UU := uu 296 (by decide +kernel) rfl
theorem u297 : (Cond.static ({ cls := "SmokeTalk$Text", name := "isLetter", desc := "(I)Z" } : MethodName)) ∈ UU := uu 297 (by decide +kernel) rfl
theorem u298 : (Cond.code ({ cls := "SmokeTalk$Text", name := "isLetter", desc := "(I)Z" } : MethodName) prog_7_method_9_code (1 : Nat) (Option.some FieldType.boolean)) ∈ UU := uu 298 (by decide +kernel) rfl
theorem u299 : (Cond.methodLink "SmokeTalk$Text" (45 : Nat) ({ cls := "SmokeTalk$Text", name := "readName", desc := "()I" } : MethodName)) ∈ UU := uu 299 (by decide +kernel) rfl
theorem u301 : (Cond.instanceMethod ({ cls := "SmokeTalk$Text", name := "readName", desc := "()I" } : MethodName)) ∈ UU := uu 301 (by decide +kernel) rfl
theorem u302 : (Cond.code ({ cls := "SmokeTalk$Text", name := "readName", desc := "()I" } : MethodName) prog_7_method_6_code (1 : Nat) (Option.some FieldType.int)) ∈ UU := uu 302 (by decide +kernel) rfl
theorem u304 : (Cond.methodLink "SmokeTalk$Text" (50 : Nat) ({ cls := "SmokeTalk$Text", name := "spells", desc := "(Ljava/lang/String;)Z" } : MethodName)) ∈ UU := uu 304 (by decide +kernel) rfl
theorem u306 : (Cond.instanceMethod ({ cls := "SmokeTalk$Text", name := "spells", desc := "(Ljava/lang/String;)Z" } : MethodName)) ∈ UU := uu 306 (by decide +kernel) rfl
theorem u307 : (Cond.code ({ cls := "SmokeTalk$Text", name := "spells", desc := "(Ljava/lang/String;)Z" } : MethodName) prog_7_method_7_code (3 : Nat) (Option.some FieldType.boolean)) ∈ UU := uu 307 (by decide +kernel) rfl
theorem u308 : (Cond.methodLink "SmokeTalk$Text" (58 : Nat) ({ cls := "java/lang/String", name := "length", desc := "()I" } : MethodName)) ∈ UU := uu 308 (by decide +kernel) rfl
theorem u309 : (Cond.instanceMethod ({ cls := "java/lang/String", name := "length", desc := "()I" } : MethodName)) ∈ UU := uu 309 (by decide +kernel) rfl
theorem u310 : (Cond.selects "java/lang/String" ({ cls := "java/lang/String", name := "length", desc := "()I" } : MethodName) ({ cls := "java/lang/String", name := "length", desc := "()I" } : MethodName)) ∈ UU := uu 310 (by decide +kernel) rfl
theorem u311 : (Cond.code ({ cls := "java/lang/String", name := "length", desc := "()I" } : MethodName) prog_12_method_54_code (1 : Nat) (Option.some FieldType.int)) ∈ UU := uu 311 (by decide +kernel) rfl
theorem u312 : (Cond.methodLink "java/lang/String" (335 : Nat) ({ cls := "java/lang/String", name := "coder", desc := "()B" } : MethodName)) ∈ UU := uu 312 (by decide +kernel) rfl
theorem u313 : (Cond.instanceMethod ({ cls := "java/lang/String", name := "coder", desc := "()B" } : MethodName)) ∈ UU := uu 313 (by decide +kernel) rfl
theorem u314 : (Cond.selects "java/lang/String" ({ cls := "java/lang/String", name := "coder", desc := "()B" } : MethodName) ({ cls := "java/lang/String", name := "coder", desc := "()B" } : MethodName)) ∈ UU := uu 314 (by decide +kernel) rfl
theorem u315 : (Cond.code ({ cls := "java/lang/String", name := "coder", desc := "()B" } : MethodName) prog_12_method_152_code (1 : Nat) (Option.some FieldType.byte)) ∈ UU := uu 315 (by decide +kernel) rfl
theorem u316 : (Cond.fieldLink "java/lang/String" (38 : Nat) "java/lang/String" "COMPACT_STRINGS" "Z") ∈ UU := uu 316 (by decide +kernel) rfl
theorem u318 : (Cond.methodLink "SmokeTalk$Text" (62 : Nat) ({ cls := "java/lang/String", name := "charAt", desc := "(I)C" } : MethodName)) ∈ UU := uu 318 (by decide +kernel) rfl
theorem u319 : (Cond.instanceMethod ({ cls := "java/lang/String", name := "charAt", desc := "(I)C" } : MethodName)) ∈ UU := uu 319 (by decide +kernel) rfl
theorem u320 : (Cond.selects "java/lang/String" ({ cls := "java/lang/String", name := "charAt", desc := "(I)C" } : MethodName) ({ cls := "java/lang/String", name := "charAt", desc := "(I)C" } : MethodName)) ∈ UU := uu 320 (by decide +kernel) rfl
theorem u321 : (Cond.code ({ cls := "java/lang/String", name := "charAt", desc := "(I)C" } : MethodName) prog_12_method_56_code (2 : Nat) (Option.some FieldType.char)) ∈ UU := uu 321 (by decide +kernel) rfl
theorem u322 : (Cond.methodLink "java/lang/String" (492 : Nat) ({ cls := "java/lang/String", name := "isLatin1", desc := "()Z" } : MethodName)) ∈ UU := uu 322 (by decide +kernel) rfl
theorem u323 : (Cond.instanceMethod ({ cls := "java/lang/String", name := "isLatin1", desc := "()Z" } : MethodName)) ∈ UU := uu 323 (by decide +kernel) rfl
theorem u324 : (Cond.selects "java/lang/String" ({ cls := "java/lang/String", name := "isLatin1", desc := "()Z" } : MethodName) ({ cls := "java/lang/String", name := "isLatin1", desc := "()Z" } : MethodName)) ∈ UU := uu 324 (by decide +kernel) rfl
theorem u325 : (Cond.code ({ cls := "java/lang/String", name := "isLatin1", desc := "()Z" } : MethodName) prog_12_method_154_code (1 : Nat) (Option.some FieldType.boolean)) ∈ UU := uu 325 (by decide +kernel) rfl
theorem u326 : (Cond.methodLink "java/lang/String" (495 : Nat) ({ cls := "java/lang/StringLatin1", name := "charAt", desc := "([BI)C" } : MethodName)) ∈ UU := uu 326 (by decide +kernel) rfl
theorem u327 : (Cond.static ({ cls := "java/lang/StringLatin1", name := "charAt", desc := "([BI)C" } : MethodName)) ∈ UU := uu 327 (by decide +kernel) rfl
theorem u328 : (Cond.code ({ cls := "java/lang/StringLatin1", name := "charAt", desc := "([BI)C" } : MethodName) prog_13_method_2_code (2 : Nat) (Option.some FieldType.char)) ∈ UU := uu 328 (by decide +kernel) rfl
theorem u329 : (Cond.methodLink "java/lang/StringLatin1" (9 : Nat) ({ cls := "java/lang/String", name := "checkIndex", desc := "(II)V" } : MethodName)) ∈ UU := uu 329 (by decide +kernel) rfl
theorem u330 : (Cond.static ({ cls := "java/lang/String", name := "checkIndex", desc := "(II)V" } : MethodName)) ∈ UU := uu 330 (by decide +kernel) rfl
theorem u331 : (Cond.code ({ cls := "java/lang/String", name := "checkIndex", desc := "(II)V" } : MethodName) prog_12_method_155_code (2 : Nat) (Option.none : Option FieldType)) ∈ UU := uu 331 (by decide +kernel) rfl
theorem u332 : (Cond.fieldLink "java/lang/String" (1053 : Nat) "jdk/internal/util/Preconditions" "SIOOBE_FORMATTER" "Ljava/util/function/BiFunction;") ∈ UU := uu 332 (by decide +kernel) rfl
theorem u334 : (Cond.methodLink "java/lang/String" (1059 : Nat) ({ cls := "jdk/internal/util/Preconditions", name := "checkIndex", desc := "(IILjava/util/function/BiFunction;)I" } : MethodName)) ∈ UU := uu 334 (by decide +kernel) rfl
theorem u335 : (Cond.static ({ cls := "jdk/internal/util/Preconditions", name := "checkIndex", desc := "(IILjava/util/function/BiFunction;)I" } : MethodName)) ∈ UU := uu 335 (by decide +kernel) rfl
theorem u336 : (Cond.code ({ cls := "jdk/internal/util/Preconditions", name := "checkIndex", desc := "(IILjava/util/function/BiFunction;)I" } : MethodName) prog_15_method_11_code (3 : Nat) (Option.some FieldType.int)) ∈ UU := uu 336 (by decide +kernel) rfl
theorem u337 : (Cond.methodLink "java/lang/String" (498 : Nat) ({ cls := "java/lang/StringUTF16", name := "charAt", desc := "([BI)C" } : MethodName)) ∈ UU := uu 337 (by decide +kernel) rfl
theorem u338 : (Cond.static ({ cls := "java/lang/StringUTF16", name := "charAt", desc := "([BI)C" } : MethodName)) ∈ UU := uu 338 (by decide +kernel) rfl
theorem u339 : (Cond.code ({ cls := "java/lang/StringUTF16", name := "charAt", desc := "([BI)C" } : MethodName) prog_14_method_83_code (2 : Nat) (Option.some FieldType.char)) ∈ UU := uu 339 (by decide +kernel) rfl
theorem u340 : (Cond.methodLink "java/lang/StringUTF16" (67 : Nat) ({ cls := "java/lang/StringUTF16", name := "checkIndex", desc := "(I[B)V" } : MethodName)) ∈ UU := uu 340 (by decide +kernel) rfl
theorem u341 : (Cond.static ({ cls := "java/lang/StringUTF16", name := "checkIndex", desc := "(I[B)V" } : MethodName)) ∈ UU := uu 341 (by decide +kernel) rfl
theorem u342 : (Cond.code ({ cls := "java/lang/StringUTF16", name := "checkIndex", desc := "(I[B)V" } : MethodName) prog_14_method_91_code (2 : Nat) (Option.none : Option FieldType)) ∈ UU := uu 342 (by decide +kernel) rfl
theorem u343 : (Cond.methodLink "java/lang/StringUTF16" (48 : Nat) ({ cls := "java/lang/StringUTF16", name := "length", desc := "([B)I" } : MethodName)) ∈ UU := uu 343 (by decide +kernel) rfl
theorem u344 : (Cond.static ({ cls := "java/lang/StringUTF16", name := "length", desc := "([B)I" } : MethodName)) ∈ UU := uu 344 (by decide +kernel) rfl
theorem u345 : (Cond.code ({ cls := "java/lang/StringUTF16", name := "length", desc := "([B)I" } : MethodName) prog_14_method_6_code (1 : Nat) (Option.some FieldType.int)) ∈ UU := uu 345 (by decide +kernel) rfl
theorem u346 : (Cond.methodLink "java/lang/StringUTF16" (414 : Nat) ({ cls := "java/lang/String", name := "checkIndex", desc := "(II)V" } : MethodName)) ∈ UU := uu 346 (by decide +kernel) rfl
theorem u347 : (Cond.methodLink "java/lang/StringUTF16" (71 : Nat) ({ cls := "java/lang/StringUTF16", name := "getChar", desc := "([BI)C" } : MethodName)) ∈ UU := uu 347 (by decide +kernel) rfl
theorem u348 : (Cond.static ({ cls := "java/lang/StringUTF16", name := "getChar", desc := "([BI)C" } : MethodName)) ∈ UU := uu 348 (by decide +kernel) rfl
theorem u349 : (Cond.code ({ cls := "java/lang/StringUTF16", name := "getChar", desc := "([BI)C" } : MethodName) prog_14_method_5_code (2 : Nat) (Option.some FieldType.char)) ∈ UU := uu 349 (by decide +kernel) rfl
theorem u350 : (Cond.fieldLink "java/lang/StringUTF16" (44 : Nat) "java/lang/StringUTF16" "$assertionsDisabled" "Z") ∈ UU := uu 350 (by decide +kernel) rfl
theorem u352 : (Cond.fieldLink "java/lang/StringUTF16" (59 : Nat) "java/lang/StringUTF16" "HI_BYTE_SHIFT" "I") ∈ UU := uu 352 (by decide +kernel) rfl
theorem u354 : (Cond.fieldLink "java/lang/StringUTF16" (63 : Nat) "java/lang/StringUTF16" "LO_BYTE_SHIFT" "I") ∈ UU := uu 354 (by decide +kernel) rfl
theorem u358 : (Cond.methodLink "SmokeTalk$Telling" (54 : Nat) ({ cls := "SmokeTalk$Telling", name := "readItem", desc := "(LSmokeTalk$Text;)Z" } : MethodName)) ∈ UU := uu 358 (by decide +kernel) rfl
theorem u360 : (Cond.instanceMethod ({ cls := "SmokeTalk$Telling", name := "readItem", desc := "(LSmokeTalk$Text;)Z" } : MethodName)) ∈ UU := uu 360 (by decide +kernel) rfl
theorem u361 : (Cond.code ({ cls := "SmokeTalk$Telling", name := "readItem", desc := "(LSmokeTalk$Text;)Z" } : MethodName) prog_6_method_3_code (5 : Nat) (Option.some FieldType.boolean)) ∈ UU := uu 361 (by decide +kernel) rfl
theorem u362 : (Cond.methodLink "SmokeTalk$Telling" (58 : Nat) ({ cls := "SmokeTalk$Telling", name := "mayBegin", desc := "(I)Z" } : MethodName)) ∈ UU := uu 362 (by decide +kernel) rfl
theorem u364 : (Cond.instanceMethod ({ cls := "SmokeTalk$Telling", name := "mayBegin", desc := "(I)Z" } : MethodName)) ∈ UU := uu 364 (by decide +kernel) rfl
theorem u365 : (Cond.code ({ cls := "SmokeTalk$Telling", name := "mayBegin", desc := "(I)Z" } : MethodName) prog_6_method_4_code (2 : Nat) (Option.some FieldType.boolean)) ∈ UU := uu 365 (by decide +kernel) rfl
theorem u366 : (Cond.methodLink "SmokeTalk$Telling" (62 : Nat) ({ cls := "SmokeTalk$Text", name := "step", desc := "()V" } : MethodName)) ∈ UU := uu 366 (by decide +kernel) rfl
theorem u367 : (Cond.methodLink "SmokeTalk$Telling" (65 : Nat) ({ cls := "SmokeTalk$Telling", name := "numbersOf", desc := "(I)I" } : MethodName)) ∈ UU := uu 367 (by decide +kernel) rfl
theorem u368 : (Cond.static ({ cls := "SmokeTalk$Telling", name := "numbersOf", desc := "(I)I" } : MethodName)) ∈ UU := uu 368 (by decide +kernel) rfl
theorem u369 : (Cond.code ({ cls := "SmokeTalk$Telling", name := "numbersOf", desc := "(I)I" } : MethodName) prog_6_method_5_code (1 : Nat) (Option.some FieldType.int)) ∈ UU := uu 369 (by decide +kernel) rfl
theorem u370 : (Cond.methodLink "SmokeTalk$Telling" (72 : Nat) ({ cls := "SmokeTalk$Telling", name := "mostOf", desc := "(II)I" } : MethodName)) ∈ UU := uu 370 (by decide +kernel) rfl
theorem u371 : (Cond.static ({ cls := "SmokeTalk$Telling", name := "mostOf", desc := "(II)I" } : MethodName)) ∈ UU := uu 371 (by decide +kernel) rfl
theorem u372 : (Cond.code ({ cls := "SmokeTalk$Telling", name := "mostOf", desc := "(II)I" } : MethodName) prog_6_method_6_code (2 : Nat) (Option.some FieldType.int)) ∈ UU := uu 372 (by decide +kernel) rfl
theorem u373 : (Cond.methodLink "SmokeTalk$Telling" (76 : Nat) ({ cls := "SmokeTalk$Telling", name := "draft", desc := "(I)V" } : MethodName)) ∈ UU := uu 373 (by decide +kernel) rfl
theorem u375 : (Cond.instanceMethod ({ cls := "SmokeTalk$Telling", name := "draft", desc := "(I)V" } : MethodName)) ∈ UU := uu 375 (by decide +kernel) rfl
theorem u376 : (Cond.code ({ cls := "SmokeTalk$Telling", name := "draft", desc := "(I)V" } : MethodName) prog_6_method_7_code (2 : Nat) (Option.none : Option FieldType)) ∈ UU := uu 376 (by decide +kernel) rfl
theorem u377 : (Cond.methodLink "SmokeTalk$Telling" (80 : Nat) ({ cls := "SmokeTalk$Suppers", name := "settle", desc := "([I)V" } : MethodName)) ∈ UU := uu 377 (by decide +kernel) rfl
theorem u378 : (Cond.instanceMethod ({ cls := "SmokeTalk$Suppers", name := "settle", desc := "([I)V" } : MethodName)) ∈ UU := uu 378 (by decide +kernel) rfl
theorem u379 : (Cond.selects "SmokeTalk$Suppers" ({ cls := "SmokeTalk$Suppers", name := "settle", desc := "([I)V" } : MethodName) ({ cls := "SmokeTalk$Suppers", name := "settle", desc := "([I)V" } : MethodName)) ∈ UU := uu 379 (by decide +kernel) rfl
theorem u380 : (Cond.code ({ cls := "SmokeTalk$Suppers", name := "settle", desc := "([I)V" } : MethodName) prog_5_method_3_code (3 : Nat) (Option.none : Option FieldType)) ∈ UU := uu 380 (by decide +kernel) rfl
theorem u381 : (Cond.methodLink "SmokeTalk$Telling" (84 : Nat) ({ cls := "SmokeTalk$Menu", name := "list", desc := "([I)V" } : MethodName)) ∈ UU := uu 381 (by decide +kernel) rfl
theorem u382 : (Cond.instanceMethod ({ cls := "SmokeTalk$Menu", name := "list", desc := "([I)V" } : MethodName)) ∈ UU := uu 382 (by decide +kernel) rfl
theorem u383 : (Cond.selects "SmokeTalk$Menu" ({ cls := "SmokeTalk$Menu", name := "list", desc := "([I)V" } : MethodName) ({ cls := "SmokeTalk$Menu", name := "list", desc := "([I)V" } : MethodName)) ∈ UU := uu 383 (by decide +kernel) rfl
theorem u384 : (Cond.code ({ cls := "SmokeTalk$Menu", name := "list", desc := "([I)V" } : MethodName) prog_3_method_3_code (4 : Nat) (Option.none : Option FieldType)) ∈ UU := uu 384 (by decide +kernel) rfl
theorem u385 : (Cond.methodLink "SmokeTalk" (81 : Nat) ({ cls := "SmokeTalk$Menu", name := "become", desc := "(LSmokeTalk$Menu;)V" } : MethodName)) ∈ UU := uu 385 (by decide +kernel) rfl
theorem u386 : (Cond.instanceMethod ({ cls := "SmokeTalk$Menu", name := "become", desc := "(LSmokeTalk$Menu;)V" } : MethodName)) ∈ UU := uu 386 (by decide +kernel) rfl
theorem u387 : (Cond.selects "SmokeTalk$Menu" ({ cls := "SmokeTalk$Menu", name := "become", desc := "(LSmokeTalk$Menu;)V" } : MethodName) ({ cls := "SmokeTalk$Menu", name := "become", desc := "(LSmokeTalk$Menu;)V" } : MethodName)) ∈ UU := uu 387 (by decide +kernel) rfl
theorem u388 : (Cond.code ({ cls := "SmokeTalk$Menu", name := "become", desc := "(LSmokeTalk$Menu;)V" } : MethodName) prog_3_method_2_code (3 : Nat) (Option.none : Option FieldType)) ∈ UU := uu 388 (by decide +kernel) rfl
theorem u389 : (Cond.methodLink "SmokeTalk" (91 : Nat) ({ cls := "SmokeTalk$Suppers", name := "become", desc := "(LSmokeTalk$Suppers;)V" } : MethodName)) ∈ UU := uu 389 (by decide +kernel) rfl
theorem u390 : (Cond.instanceMethod ({ cls := "SmokeTalk$Suppers", name := "become", desc := "(LSmokeTalk$Suppers;)V" } : MethodName)) ∈ UU := uu 390 (by decide +kernel) rfl
theorem u391 : (Cond.selects "SmokeTalk$Suppers" ({ cls := "SmokeTalk$Suppers", name := "become", desc := "(LSmokeTalk$Suppers;)V" } : MethodName) ({ cls := "SmokeTalk$Suppers", name := "become", desc := "(LSmokeTalk$Suppers;)V" } : MethodName)) ∈ UU := uu 391 (by decide +kernel) rfl
theorem u392 : (Cond.code ({ cls := "SmokeTalk$Suppers", name := "become", desc := "(LSmokeTalk$Suppers;)V" } : MethodName) prog_5_method_2_code (3 : Nat) (Option.none : Option FieldType)) ∈ UU := uu 392 (by decide +kernel) rfl
theorem u393 : (Cond.arrayClass FieldType.byte) ∈ UU := uu 393 (by decide +kernel) rfl
theorem u394 : (Cond.methodLink "SmokeTalkLaw" (29 : Nat) ({ cls := "SmokeTalk", name := "house", desc := "(II)I" } : MethodName)) ∈ UU := uu 394 (by decide +kernel) rfl
theorem u395 : (Cond.instanceMethod ({ cls := "SmokeTalk", name := "house", desc := "(II)I" } : MethodName)) ∈ UU := uu 395 (by decide +kernel) rfl
theorem u396 : (Cond.selects "SmokeTalk" ({ cls := "SmokeTalk", name := "house", desc := "(II)I" } : MethodName) ({ cls := "SmokeTalk", name := "house", desc := "(II)I" } : MethodName)) ∈ UU := uu 396 (by decide +kernel) rfl
theorem u397 : (Cond.code ({ cls := "SmokeTalk", name := "house", desc := "(II)I" } : MethodName) prog_1_method_5_code (3 : Nat) (Option.some FieldType.int)) ∈ UU := uu 397 (by decide +kernel) rfl
theorem u398 : (Cond.methodLink "SmokeTalk" (98 : Nat) ({ cls := "SmokeTalk$Suppers", name := "hasHouse", desc := "(I)Z" } : MethodName)) ∈ UU := uu 398 (by decide +kernel) rfl
theorem u399 : (Cond.instanceMethod ({ cls := "SmokeTalk$Suppers", name := "hasHouse", desc := "(I)Z" } : MethodName)) ∈ UU := uu 399 (by decide +kernel) rfl
theorem u400 : (Cond.selects "SmokeTalk$Suppers" ({ cls := "SmokeTalk$Suppers", name := "hasHouse", desc := "(I)Z" } : MethodName) ({ cls := "SmokeTalk$Suppers", name := "hasHouse", desc := "(I)Z" } : MethodName)) ∈ UU := uu 400 (by decide +kernel) rfl
theorem u401 : (Cond.code ({ cls := "SmokeTalk$Suppers", name := "hasHouse", desc := "(I)Z" } : MethodName) prog_5_method_4_code (2 : Nat) (Option.some FieldType.boolean)) ∈ UU := uu 401 (by decide +kernel) rfl
theorem u402 : (Cond.methodLink "SmokeTalk" (102 : Nat) ({ cls := "SmokeTalk$Suppers", name := "stock", desc := "(II)I" } : MethodName)) ∈ UU := uu 402 (by decide +kernel) rfl
theorem u403 : (Cond.instanceMethod ({ cls := "SmokeTalk$Suppers", name := "stock", desc := "(II)I" } : MethodName)) ∈ UU := uu 403 (by decide +kernel) rfl
theorem u404 : (Cond.selects "SmokeTalk$Suppers" ({ cls := "SmokeTalk$Suppers", name := "stock", desc := "(II)I" } : MethodName) ({ cls := "SmokeTalk$Suppers", name := "stock", desc := "(II)I" } : MethodName)) ∈ UU := uu 404 (by decide +kernel) rfl
theorem u405 : (Cond.code ({ cls := "SmokeTalk$Suppers", name := "stock", desc := "(II)I" } : MethodName) prog_5_method_5_code (3 : Nat) (Option.some FieldType.int)) ∈ UU := uu 405 (by decide +kernel) rfl
theorem u406 : (Cond.methodLink "SmokeTalk" (106 : Nat) ({ cls := "SmokeTalk$Suppers", name := "allStock", desc := "(I)I" } : MethodName)) ∈ UU := uu 406 (by decide +kernel) rfl
theorem u407 : (Cond.instanceMethod ({ cls := "SmokeTalk$Suppers", name := "allStock", desc := "(I)I" } : MethodName)) ∈ UU := uu 407 (by decide +kernel) rfl
theorem u408 : (Cond.selects "SmokeTalk$Suppers" ({ cls := "SmokeTalk$Suppers", name := "allStock", desc := "(I)I" } : MethodName) ({ cls := "SmokeTalk$Suppers", name := "allStock", desc := "(I)I" } : MethodName)) ∈ UU := uu 408 (by decide +kernel) rfl
theorem u409 : (Cond.code ({ cls := "SmokeTalk$Suppers", name := "allStock", desc := "(I)I" } : MethodName) prog_5_method_6_code (4 : Nat) (Option.some FieldType.int)) ∈ UU := uu 409 (by decide +kernel) rfl
theorem u410 : (Cond.methodLink "SmokeTalk$Suppers" (38 : Nat) ({ cls := "SmokeTalk$Suppers", name := "stock", desc := "(II)I" } : MethodName)) ∈ UU := uu 410 (by decide +kernel) rfl
theorem u411 : (Cond.methodLink "SmokeTalkLaw" (34 : Nat) ({ cls := "SmokeTalk", name := "dish", desc := "(II)I" } : MethodName)) ∈ UU := uu 411 (by decide +kernel) rfl
theorem u412 : (Cond.instanceMethod ({ cls := "SmokeTalk", name := "dish", desc := "(II)I" } : MethodName)) ∈ UU := uu 412 (by decide +kernel) rfl
theorem u413 : (Cond.selects "SmokeTalk" ({ cls := "SmokeTalk", name := "dish", desc := "(II)I" } : MethodName) ({ cls := "SmokeTalk", name := "dish", desc := "(II)I" } : MethodName)) ∈ UU := uu 413 (by decide +kernel) rfl
theorem u414 : (Cond.code ({ cls := "SmokeTalk", name := "dish", desc := "(II)I" } : MethodName) prog_1_method_6_code (3 : Nat) (Option.some FieldType.int)) ∈ UU := uu 414 (by decide +kernel) rfl
theorem u415 : (Cond.methodLink "SmokeTalk" (110 : Nat) ({ cls := "SmokeTalk$Menu", name := "lists", desc := "(I)Z" } : MethodName)) ∈ UU := uu 415 (by decide +kernel) rfl
theorem u416 : (Cond.instanceMethod ({ cls := "SmokeTalk$Menu", name := "lists", desc := "(I)Z" } : MethodName)) ∈ UU := uu 416 (by decide +kernel) rfl
theorem u417 : (Cond.selects "SmokeTalk$Menu" ({ cls := "SmokeTalk$Menu", name := "lists", desc := "(I)Z" } : MethodName) ({ cls := "SmokeTalk$Menu", name := "lists", desc := "(I)Z" } : MethodName)) ∈ UU := uu 417 (by decide +kernel) rfl
theorem u418 : (Cond.code ({ cls := "SmokeTalk$Menu", name := "lists", desc := "(I)Z" } : MethodName) prog_3_method_4_code (2 : Nat) (Option.some FieldType.boolean)) ∈ UU := uu 418 (by decide +kernel) rfl
theorem u419 : (Cond.methodLink "SmokeTalk" (113 : Nat) ({ cls := "SmokeTalk$Menu", name := "need", desc := "(II)I" } : MethodName)) ∈ UU := uu 419 (by decide +kernel) rfl
theorem u420 : (Cond.instanceMethod ({ cls := "SmokeTalk$Menu", name := "need", desc := "(II)I" } : MethodName)) ∈ UU := uu 420 (by decide +kernel) rfl
theorem u421 : (Cond.selects "SmokeTalk$Menu" ({ cls := "SmokeTalk$Menu", name := "need", desc := "(II)I" } : MethodName) ({ cls := "SmokeTalk$Menu", name := "need", desc := "(II)I" } : MethodName)) ∈ UU := uu 421 (by decide +kernel) rfl
theorem u422 : (Cond.code ({ cls := "SmokeTalk$Menu", name := "need", desc := "(II)I" } : MethodName) prog_3_method_5_code (3 : Nat) (Option.some FieldType.int)) ∈ UU := uu 422 (by decide +kernel) rfl
theorem u423 : (Cond.methodLink "SmokeTalkLaw" (38 : Nat) ({ cls := "SmokeTalk", name := "cook", desc := "(II)I" } : MethodName)) ∈ UU := uu 423 (by decide +kernel) rfl
theorem u424 : (Cond.instanceMethod ({ cls := "SmokeTalk", name := "cook", desc := "(II)I" } : MethodName)) ∈ UU := uu 424 (by decide +kernel) rfl
theorem u425 : (Cond.selects "SmokeTalk" ({ cls := "SmokeTalk", name := "cook", desc := "(II)I" } : MethodName) ({ cls := "SmokeTalk", name := "cook", desc := "(II)I" } : MethodName)) ∈ UU := uu 425 (by decide +kernel) rfl
theorem u426 : (Cond.code ({ cls := "SmokeTalk", name := "cook", desc := "(II)I" } : MethodName) prog_1_method_7_code (4 : Nat) (Option.some FieldType.int)) ∈ UU := uu 426 (by decide +kernel) rfl
theorem u427 : (Cond.methodLink "SmokeTalk" (125 : Nat) ({ cls := "SmokeTalk", name := "couldCook", desc := "(II)Z" } : MethodName)) ∈ UU := uu 427 (by decide +kernel) rfl
theorem u429 : (Cond.instanceMethod ({ cls := "SmokeTalk", name := "couldCook", desc := "(II)Z" } : MethodName)) ∈ UU := uu 429 (by decide +kernel) rfl
theorem u430 : (Cond.code ({ cls := "SmokeTalk", name := "couldCook", desc := "(II)Z" } : MethodName) prog_1_method_33_code (3 : Nat) (Option.some FieldType.boolean)) ∈ UU := uu 430 (by decide +kernel) rfl
theorem u431 : (Cond.methodLink "SmokeTalk" (164 : Nat) ({ cls := "SmokeTalk$Suppers", name := "fill", desc := "(I[I)V" } : MethodName)) ∈ UU := uu 431 (by decide +kernel) rfl
theorem u432 : (Cond.instanceMethod ({ cls := "SmokeTalk$Suppers", name := "fill", desc := "(I[I)V" } : MethodName)) ∈ UU := uu 432 (by decide +kernel) rfl
theorem u433 : (Cond.selects "SmokeTalk$Suppers" ({ cls := "SmokeTalk$Suppers", name := "fill", desc := "(I[I)V" } : MethodName) ({ cls := "SmokeTalk$Suppers", name := "fill", desc := "(I[I)V" } : MethodName)) ∈ UU := uu 433 (by decide +kernel) rfl
theorem u434 : (Cond.code ({ cls := "SmokeTalk$Suppers", name := "fill", desc := "(I[I)V" } : MethodName) prog_5_method_8_code (4 : Nat) (Option.none : Option FieldType)) ∈ UU := uu 434 (by decide +kernel) rfl
theorem u435 : (Cond.methodLink "SmokeTalk" (276 : Nat) ({ cls := "SmokeTalk$Menu", name := "fits", desc := "(I[I)Z" } : MethodName)) ∈ UU := uu 435 (by decide +kernel) rfl
theorem u436 : (Cond.instanceMethod ({ cls := "SmokeTalk$Menu", name := "fits", desc := "(I[I)Z" } : MethodName)) ∈ UU := uu 436 (by decide +kernel) rfl
theorem u437 : (Cond.selects "SmokeTalk$Menu" ({ cls := "SmokeTalk$Menu", name := "fits", desc := "(I[I)Z" } : MethodName) ({ cls := "SmokeTalk$Menu", name := "fits", desc := "(I[I)Z" } : MethodName)) ∈ UU := uu 437 (by decide +kernel) rfl
theorem u438 : (Cond.code ({ cls := "SmokeTalk$Menu", name := "fits", desc := "(I[I)Z" } : MethodName) prog_3_method_6_code (4 : Nat) (Option.some FieldType.boolean)) ∈ UU := uu 438 (by decide +kernel) rfl
theorem u439 : (Cond.methodLink "SmokeTalk$Menu" (28 : Nat) ({ cls := "SmokeTalk$Menu", name := "need", desc := "(II)I" } : MethodName)) ∈ UU := uu 439 (by decide +kernel) rfl
theorem u440 : (Cond.methodLink "SmokeTalk" (132 : Nat) ({ cls := "SmokeTalk$Suppers", name := "change", desc := "(III)V" } : MethodName)) ∈ UU := uu 440 (by decide +kernel) rfl
theorem u441 : (Cond.instanceMethod ({ cls := "SmokeTalk$Suppers", name := "change", desc := "(III)V" } : MethodName)) ∈ UU := uu 441 (by decide +kernel) rfl
theorem u442 : (Cond.selects "SmokeTalk$Suppers" ({ cls := "SmokeTalk$Suppers", name := "change", desc := "(III)V" } : MethodName) ({ cls := "SmokeTalk$Suppers", name := "change", desc := "(III)V" } : MethodName)) ∈ UU := uu 442 (by decide +kernel) rfl
theorem u443 : (Cond.code ({ cls := "SmokeTalk$Suppers", name := "change", desc := "(III)V" } : MethodName) prog_5_method_7_code (4 : Nat) (Option.none : Option FieldType)) ∈ UU := uu 443 (by decide +kernel) rfl
theorem u444 : (Cond.methodLink "SmokeTalk" (136 : Nat) ({ cls := "SmokeTalk$Suppers", name := "rise", desc := "(II)V" } : MethodName)) ∈ UU := uu 444 (by decide +kernel) rfl
theorem u445 : (Cond.instanceMethod ({ cls := "SmokeTalk$Suppers", name := "rise", desc := "(II)V" } : MethodName)) ∈ UU := uu 445 (by decide +kernel) rfl
theorem u446 : (Cond.selects "SmokeTalk$Suppers" ({ cls := "SmokeTalk$Suppers", name := "rise", desc := "(II)V" } : MethodName) ({ cls := "SmokeTalk$Suppers", name := "rise", desc := "(II)V" } : MethodName)) ∈ UU := uu 446 (by decide +kernel) rfl
theorem u447 : (Cond.code ({ cls := "SmokeTalk$Suppers", name := "rise", desc := "(II)V" } : MethodName) prog_5_method_9_code (3 : Nat) (Option.none : Option FieldType)) ∈ UU := uu 447 (by decide +kernel) rfl
theorem u448 : (Cond.methodLink "SmokeTalkLaw" (42 : Nat) ({ cls := "SmokeTalk", name := "undo", desc := "()I" } : MethodName)) ∈ UU := uu 448 (by decide +kernel) rfl
theorem u449 : (Cond.instanceMethod ({ cls := "SmokeTalk", name := "undo", desc := "()I" } : MethodName)) ∈ UU := uu 449 (by decide +kernel) rfl
theorem u450 : (Cond.selects "SmokeTalk" ({ cls := "SmokeTalk", name := "undo", desc := "()I" } : MethodName) ({ cls := "SmokeTalk", name := "undo", desc := "()I" } : MethodName)) ∈ UU := uu 450 (by decide +kernel) rfl
theorem u451 : (Cond.code ({ cls := "SmokeTalk", name := "undo", desc := "()I" } : MethodName) prog_1_method_8_code (5 : Nat) (Option.some FieldType.int)) ∈ UU := uu 451 (by decide +kernel) rfl
theorem u452 : (Cond.methodLink "SmokeTalk" (146 : Nat) ({ cls := "java/lang/Math", name := "min", desc := "(II)I" } : MethodName)) ∈ UU := uu 452 (by decide +kernel) rfl
theorem u453 : (Cond.static ({ cls := "java/lang/Math", name := "min", desc := "(II)I" } : MethodName)) ∈ UU := uu 453 (by decide +kernel) rfl
theorem u454 : (Cond.code ({ cls := "java/lang/Math", name := "min", desc := "(II)I" } : MethodName) prog_11_method_69_code (2 : Nat) (Option.some FieldType.int)) ∈ UU := uu 454 (by decide +kernel) rfl
theorem u455 : (Cond.methodLink "SmokeTalkLaw" (46 : Nat) ({ cls := "SmokeTalk", name := "gives", desc := "(IIII)I" } : MethodName)) ∈ UU := uu 455 (by decide +kernel) rfl
theorem u456 : (Cond.instanceMethod ({ cls := "SmokeTalk", name := "gives", desc := "(IIII)I" } : MethodName)) ∈ UU := uu 456 (by decide +kernel) rfl
theorem u457 : (Cond.selects "SmokeTalk" ({ cls := "SmokeTalk", name := "gives", desc := "(IIII)I" } : MethodName) ({ cls := "SmokeTalk", name := "gives", desc := "(IIII)I" } : MethodName)) ∈ UU := uu 457 (by decide +kernel) rfl
theorem u458 : (Cond.code ({ cls := "SmokeTalk", name := "gives", desc := "(IIII)I" } : MethodName) prog_1_method_9_code (5 : Nat) (Option.some FieldType.int)) ∈ UU := uu 458 (by decide +kernel) rfl
theorem u459 : (Cond.methodLink "SmokeTalkLaw" (51 : Nat) ({ cls := "SmokeTalk", name := "burns", desc := "(I)I" } : MethodName)) ∈ UU := uu 459 (by decide +kernel) rfl
theorem u460 : (Cond.instanceMethod ({ cls := "SmokeTalk", name := "burns", desc := "(I)I" } : MethodName)) ∈ UU := uu 460 (by decide +kernel) rfl
theorem u461 : (Cond.selects "SmokeTalk" ({ cls := "SmokeTalk", name := "burns", desc := "(I)I" } : MethodName) ({ cls := "SmokeTalk", name := "burns", desc := "(I)I" } : MethodName)) ∈ UU := uu 461 (by decide +kernel) rfl
theorem u462 : (Cond.code ({ cls := "SmokeTalk", name := "burns", desc := "(I)I" } : MethodName) prog_1_method_10_code (4 : Nat) (Option.some FieldType.int)) ∈ UU := uu 462 (by decide +kernel) rfl
theorem u463 : (Cond.methodLink "SmokeTalkLaw" (56 : Nat) ({ cls := "SmokeTalk", name := "plume", desc := "(II)I" } : MethodName)) ∈ UU := uu 463 (by decide +kernel) rfl
theorem u464 : (Cond.instanceMethod ({ cls := "SmokeTalk", name := "plume", desc := "(II)I" } : MethodName)) ∈ UU := uu 464 (by decide +kernel) rfl
theorem u465 : (Cond.selects "SmokeTalk" ({ cls := "SmokeTalk", name := "plume", desc := "(II)I" } : MethodName) ({ cls := "SmokeTalk", name := "plume", desc := "(II)I" } : MethodName)) ∈ UU := uu 465 (by decide +kernel) rfl
theorem u466 : (Cond.code ({ cls := "SmokeTalk", name := "plume", desc := "(II)I" } : MethodName) prog_1_method_11_code (3 : Nat) (Option.some FieldType.int)) ∈ UU := uu 466 (by decide +kernel) rfl
theorem u467 : (Cond.methodLink "SmokeTalkLaw" (60 : Nat) ({ cls := "SmokeTalk", name := "fog", desc := "(I)I" } : MethodName)) ∈ UU := uu 467 (by decide +kernel) rfl
theorem u468 : (Cond.instanceMethod ({ cls := "SmokeTalk", name := "fog", desc := "(I)I" } : MethodName)) ∈ UU := uu 468 (by decide +kernel) rfl
theorem u469 : (Cond.selects "SmokeTalk" ({ cls := "SmokeTalk", name := "fog", desc := "(I)I" } : MethodName) ({ cls := "SmokeTalk", name := "fog", desc := "(I)I" } : MethodName)) ∈ UU := uu 469 (by decide +kernel) rfl
theorem u470 : (Cond.code ({ cls := "SmokeTalk", name := "fog", desc := "(I)I" } : MethodName) prog_1_method_12_code (3 : Nat) (Option.some FieldType.int)) ∈ UU := uu 470 (by decide +kernel) rfl
theorem u471 : (Cond.methodLink "SmokeTalkLaw" (64 : Nat) ({ cls := "SmokeTalk", name := "says", desc := "(IIIII)I" } : MethodName)) ∈ UU := uu 471 (by decide +kernel) rfl
theorem u472 : (Cond.instanceMethod ({ cls := "SmokeTalk", name := "says", desc := "(IIIII)I" } : MethodName)) ∈ UU := uu 472 (by decide +kernel) rfl
theorem u473 : (Cond.selects "SmokeTalk" ({ cls := "SmokeTalk", name := "says", desc := "(IIIII)I" } : MethodName) ({ cls := "SmokeTalk", name := "says", desc := "(IIIII)I" } : MethodName)) ∈ UU := uu 473 (by decide +kernel) rfl
theorem u474 : (Cond.code ({ cls := "SmokeTalk", name := "says", desc := "(IIIII)I" } : MethodName) prog_1_method_13_code (7 : Nat) (Option.some FieldType.int)) ∈ UU := uu 474 (by decide +kernel) rfl
theorem u475 : (Cond.methodLink "SmokeTalk" (154 : Nat) ({ cls := "SmokeTalk", name := "isRow", desc := "(III)Z" } : MethodName)) ∈ UU := uu 475 (by decide +kernel) rfl
theorem u476 : (Cond.static ({ cls := "SmokeTalk", name := "isRow", desc := "(III)Z" } : MethodName)) ∈ UU := uu 476 (by decide +kernel) rfl
theorem u477 : (Cond.code ({ cls := "SmokeTalk", name := "isRow", desc := "(III)Z" } : MethodName) prog_1_method_32_code (3 : Nat) (Option.some FieldType.boolean)) ∈ UU := uu 477 (by decide +kernel) rfl
theorem u478 : (Cond.methodLink "SmokeTalk" (191 : Nat) ({ cls := "SmokeTalk", name := "isWord", desc := "(I)Z" } : MethodName)) ∈ UU := uu 478 (by decide +kernel) rfl
theorem u479 : (Cond.static ({ cls := "SmokeTalk", name := "isWord", desc := "(I)Z" } : MethodName)) ∈ UU := uu 479 (by decide +kernel) rfl
theorem u480 : (Cond.code ({ cls := "SmokeTalk", name := "isWord", desc := "(I)Z" } : MethodName) prog_1_method_31_code (1 : Nat) (Option.some FieldType.boolean)) ∈ UU := uu 480 (by decide +kernel) rfl
theorem u481 : (Cond.methodLink "SmokeTalk" (158 : Nat) ({ cls := "SmokeTalk$Speech", name := "hear", desc := "(III)V" } : MethodName)) ∈ UU := uu 481 (by decide +kernel) rfl
theorem u482 : (Cond.instanceMethod ({ cls := "SmokeTalk$Speech", name := "hear", desc := "(III)V" } : MethodName)) ∈ UU := uu 482 (by decide +kernel) rfl
theorem u483 : (Cond.selects "SmokeTalk$Speech" ({ cls := "SmokeTalk$Speech", name := "hear", desc := "(III)V" } : MethodName) ({ cls := "SmokeTalk$Speech", name := "hear", desc := "(III)V" } : MethodName)) ∈ UU := uu 483 (by decide +kernel) rfl
theorem u484 : (Cond.code ({ cls := "SmokeTalk$Speech", name := "hear", desc := "(III)V" } : MethodName) prog_4_method_2_code (4 : Nat) (Option.none : Option FieldType)) ∈ UU := uu 484 (by decide +kernel) rfl
theorem u485 : (Cond.methodLink "SmokeTalk" (168 : Nat) ({ cls := "SmokeTalk$Speech", name := "fewestUnits", desc := "(LSmokeTalk$Menu;I)I" } : MethodName)) ∈ UU := uu 485 (by decide +kernel) rfl
theorem u486 : (Cond.instanceMethod ({ cls := "SmokeTalk$Speech", name := "fewestUnits", desc := "(LSmokeTalk$Menu;I)I" } : MethodName)) ∈ UU := uu 486 (by decide +kernel) rfl
theorem u487 : (Cond.selects "SmokeTalk$Speech" ({ cls := "SmokeTalk$Speech", name := "fewestUnits", desc := "(LSmokeTalk$Menu;I)I" } : MethodName) ({ cls := "SmokeTalk$Speech", name := "fewestUnits", desc := "(LSmokeTalk$Menu;I)I" } : MethodName)) ∈ UU := uu 487 (by decide +kernel) rfl
theorem u488 : (Cond.code ({ cls := "SmokeTalk$Speech", name := "fewestUnits", desc := "(LSmokeTalk$Menu;I)I" } : MethodName) prog_4_method_3_code (3 : Nat) (Option.some FieldType.int)) ∈ UU := uu 488 (by decide +kernel) rfl
theorem u489 : (Cond.methodLink "SmokeTalk$Speech" (31 : Nat) ({ cls := "SmokeTalk$Speech", name := "choose", desc := "(LSmokeTalk$Speech;LSmokeTalk$Menu;III)V" } : MethodName)) ∈ UU := uu 489 (by decide +kernel) rfl
theorem u490 : (Cond.static ({ cls := "SmokeTalk$Speech", name := "choose", desc := "(LSmokeTalk$Speech;LSmokeTalk$Menu;III)V" } : MethodName)) ∈ UU := uu 490 (by decide +kernel) rfl
theorem u491 : (Cond.code ({ cls := "SmokeTalk$Speech", name := "choose", desc := "(LSmokeTalk$Speech;LSmokeTalk$Menu;III)V" } : MethodName) prog_4_method_5_code (6 : Nat) (Option.none : Option FieldType)) ∈ UU := uu 491 (by decide +kernel) rfl
theorem u492 : (Cond.methodLink "SmokeTalk$Speech" (45 : Nat) ({ cls := "SmokeTalk$Speech", name := "compare", desc := "(I)V" } : MethodName)) ∈ UU := uu 492 (by decide +kernel) rfl
theorem u494 : (Cond.instanceMethod ({ cls := "SmokeTalk$Speech", name := "compare", desc := "(I)V" } : MethodName)) ∈ UU := uu 494 (by decide +kernel) rfl
theorem u495 : (Cond.code ({ cls := "SmokeTalk$Speech", name := "compare", desc := "(I)V" } : MethodName) prog_4_method_6_code (3 : Nat) (Option.none : Option FieldType)) ∈ UU := uu 495 (by decide +kernel) rfl
theorem u496 : (Cond.methodLink "SmokeTalk$Speech" (57 : Nat) ({ cls := "SmokeTalk$Menu", name := "fits", desc := "(I[I)Z" } : MethodName)) ∈ UU := uu 496 (by decide +kernel) rfl
theorem u497 : (Cond.methodLink "SmokeTalk$Speech" (61 : Nat) ({ cls := "SmokeTalk$Menu", name := "take", desc := "(I[I)V" } : MethodName)) ∈ UU := uu 497 (by decide +kernel) rfl
theorem u498 : (Cond.instanceMethod ({ cls := "SmokeTalk$Menu", name := "take", desc := "(I[I)V" } : MethodName)) ∈ UU := uu 498 (by decide +kernel) rfl
theorem u499 : (Cond.selects "SmokeTalk$Menu" ({ cls := "SmokeTalk$Menu", name := "take", desc := "(I[I)V" } : MethodName) ({ cls := "SmokeTalk$Menu", name := "take", desc := "(I[I)V" } : MethodName)) ∈ UU := uu 499 (by decide +kernel) rfl
theorem u500 : (Cond.code ({ cls := "SmokeTalk$Menu", name := "take", desc := "(I[I)V" } : MethodName) prog_3_method_7_code (4 : Nat) (Option.none : Option FieldType)) ∈ UU := uu 500 (by decide +kernel) rfl
theorem u501 : (Cond.methodLink "SmokeTalk$Speech" (68 : Nat) ({ cls := "SmokeTalk$Menu", name := "putBack", desc := "(I[I)V" } : MethodName)) ∈ UU := uu 501 (by decide +kernel) rfl
theorem u502 : (Cond.instanceMethod ({ cls := "SmokeTalk$Menu", name := "putBack", desc := "(I[I)V" } : MethodName)) ∈ UU := uu 502 (by decide +kernel) rfl
theorem u503 : (Cond.selects "SmokeTalk$Menu" ({ cls := "SmokeTalk$Menu", name := "putBack", desc := "(I[I)V" } : MethodName) ({ cls := "SmokeTalk$Menu", name := "putBack", desc := "(I[I)V" } : MethodName)) ∈ UU := uu 503 (by decide +kernel) rfl
theorem u504 : (Cond.code ({ cls := "SmokeTalk$Menu", name := "putBack", desc := "(I[I)V" } : MethodName) prog_3_method_8_code (4 : Nat) (Option.none : Option FieldType)) ∈ UU := uu 504 (by decide +kernel) rfl
theorem u505 : (Cond.methodLink "SmokeTalkLaw" (69 : Nat) ({ cls := "SmokeTalk", name := "nearest", desc := "(IIII)I" } : MethodName)) ∈ UU := uu 505 (by decide +kernel) rfl
theorem u506 : (Cond.instanceMethod ({ cls := "SmokeTalk", name := "nearest", desc := "(IIII)I" } : MethodName)) ∈ UU := uu 506 (by decide +kernel) rfl
theorem u507 : (Cond.selects "SmokeTalk" ({ cls := "SmokeTalk", name := "nearest", desc := "(IIII)I" } : MethodName) ({ cls := "SmokeTalk", name := "nearest", desc := "(IIII)I" } : MethodName)) ∈ UU := uu 507 (by decide +kernel) rfl
theorem u508 : (Cond.code ({ cls := "SmokeTalk", name := "nearest", desc := "(IIII)I" } : MethodName) prog_1_method_14_code (5 : Nat) (Option.some FieldType.int)) ∈ UU := uu 508 (by decide +kernel) rfl
theorem u509 : (Cond.methodLink "SmokeTalk" (178 : Nat) ({ cls := "SmokeTalk$Speech", name := "mostPlaces", desc := "(LSmokeTalk$Menu;)I" } : MethodName)) ∈ UU := uu 509 (by decide +kernel) rfl
theorem u510 : (Cond.instanceMethod ({ cls := "SmokeTalk$Speech", name := "mostPlaces", desc := "(LSmokeTalk$Menu;)I" } : MethodName)) ∈ UU := uu 510 (by decide +kernel) rfl
theorem u511 : (Cond.selects "SmokeTalk$Speech" ({ cls := "SmokeTalk$Speech", name := "mostPlaces", desc := "(LSmokeTalk$Menu;)I" } : MethodName) ({ cls := "SmokeTalk$Speech", name := "mostPlaces", desc := "(LSmokeTalk$Menu;)I" } : MethodName)) ∈ UU := uu 511 (by decide +kernel) rfl
theorem u512 : (Cond.code ({ cls := "SmokeTalk$Speech", name := "mostPlaces", desc := "(LSmokeTalk$Menu;)I" } : MethodName) prog_4_method_4_code (5 : Nat) (Option.some FieldType.int)) ∈ UU := uu 512 (by decide +kernel) rfl
theorem u513 : (Cond.methodLink "SmokeTalk$Speech" (35 : Nat) ({ cls := "java/lang/Integer", name := "bitCount", desc := "(I)I" } : MethodName)) ∈ UU := uu 513 (by decide +kernel) rfl
theorem u514 : (Cond.static ({ cls := "java/lang/Integer", name := "bitCount", desc := "(I)I" } : MethodName)) ∈ UU := uu 514 (by decide +kernel) rfl
theorem u515 : (Cond.code ({ cls := "java/lang/Integer", name := "bitCount", desc := "(I)I" } : MethodName) prog_10_method_49_code (1 : Nat) (Option.some FieldType.int)) ∈ UU := uu 515 (by decide +kernel) rfl
theorem u516 : (Cond.constant "java/lang/Integer" (265 : Nat) (1431655765 : Int32)) ∈ UU := uu 516 (by decide +kernel) rfl
theorem u517 : (Cond.constant "java/lang/Integer" (266 : Nat) (858993459 : Int32)) ∈ UU := uu 517 (by decide +kernel) rfl
theorem u518 : (Cond.constant "java/lang/Integer" (267 : Nat) (252645135 : Int32)) ∈ UU := uu 518 (by decide +kernel) rfl
theorem u519 : (Cond.methodLink "SmokeTalk$Speech" (41 : Nat) ({ cls := "SmokeTalk$Speech", name := "fewestUnits", desc := "(LSmokeTalk$Menu;I)I" } : MethodName)) ∈ UU := uu 519 (by decide +kernel) rfl
theorem u520 : (Cond.methodLink "SmokeTalkLaw" (73 : Nat) ({ cls := "SmokeTalk", name := "reads", desc := "(II)I" } : MethodName)) ∈ UU := uu 520 (by decide +kernel) rfl
theorem u521 : (Cond.instanceMethod ({ cls := "SmokeTalk", name := "reads", desc := "(II)I" } : MethodName)) ∈ UU := uu 521 (by decide +kernel) rfl
theorem u522 : (Cond.selects "SmokeTalk" ({ cls := "SmokeTalk", name := "reads", desc := "(II)I" } : MethodName) ({ cls := "SmokeTalk", name := "reads", desc := "(II)I" } : MethodName)) ∈ UU := uu 522 (by decide +kernel) rfl
theorem u523 : (Cond.code ({ cls := "SmokeTalk", name := "reads", desc := "(II)I" } : MethodName) prog_1_method_15_code (3 : Nat) (Option.some FieldType.int)) ∈ UU := uu 523 (by decide +kernel) rfl
theorem u524 : (Cond.methodLink "SmokeTalk" (182 : Nat) ({ cls := "SmokeTalk", name := "isSmoke", desc := "(I)Z" } : MethodName)) ∈ UU := uu 524 (by decide +kernel) rfl
theorem u525 : (Cond.static ({ cls := "SmokeTalk", name := "isSmoke", desc := "(I)Z" } : MethodName)) ∈ UU := uu 525 (by decide +kernel) rfl
theorem u526 : (Cond.code ({ cls := "SmokeTalk", name := "isSmoke", desc := "(I)Z" } : MethodName) prog_1_method_30_code (1 : Nat) (Option.some FieldType.boolean)) ∈ UU := uu 526 (by decide +kernel) rfl
theorem u527 : (Cond.methodLink "SmokeTalk" (185 : Nat) ({ cls := "SmokeTalk$Suppers", name := "thousandths", desc := "(II)I" } : MethodName)) ∈ UU := uu 527 (by decide +kernel) rfl
theorem u528 : (Cond.instanceMethod ({ cls := "SmokeTalk$Suppers", name := "thousandths", desc := "(II)I" } : MethodName)) ∈ UU := uu 528 (by decide +kernel) rfl
theorem u529 : (Cond.selects "SmokeTalk$Suppers" ({ cls := "SmokeTalk$Suppers", name := "thousandths", desc := "(II)I" } : MethodName) ({ cls := "SmokeTalk$Suppers", name := "thousandths", desc := "(II)I" } : MethodName)) ∈ UU := uu 529 (by decide +kernel) rfl
theorem u530 : (Cond.code ({ cls := "SmokeTalk$Suppers", name := "thousandths", desc := "(II)I" } : MethodName) prog_5_method_10_code (6 : Nat) (Option.some FieldType.int)) ∈ UU := uu 530 (by decide +kernel) rfl
theorem u531 : (Cond.methodLink "SmokeTalkLaw" (77 : Nat) ({ cls := "SmokeTalk", name := "means", desc := "(I)I" } : MethodName)) ∈ UU := uu 531 (by decide +kernel) rfl
theorem u532 : (Cond.instanceMethod ({ cls := "SmokeTalk", name := "means", desc := "(I)I" } : MethodName)) ∈ UU := uu 532 (by decide +kernel) rfl
theorem u533 : (Cond.selects "SmokeTalk" ({ cls := "SmokeTalk", name := "means", desc := "(I)I" } : MethodName) ({ cls := "SmokeTalk", name := "means", desc := "(I)I" } : MethodName)) ∈ UU := uu 533 (by decide +kernel) rfl
theorem u534 : (Cond.code ({ cls := "SmokeTalk", name := "means", desc := "(I)I" } : MethodName) prog_1_method_16_code (2 : Nat) (Option.some FieldType.int)) ∈ UU := uu 534 (by decide +kernel) rfl
theorem u535 : (Cond.methodLink "SmokeTalk" (188 : Nat) ({ cls := "SmokeTalk$Menu", name := "meaning", desc := "(I)I" } : MethodName)) ∈ UU := uu 535 (by decide +kernel) rfl
theorem u536 : (Cond.instanceMethod ({ cls := "SmokeTalk$Menu", name := "meaning", desc := "(I)I" } : MethodName)) ∈ UU := uu 536 (by decide +kernel) rfl
theorem u537 : (Cond.selects "SmokeTalk$Menu" ({ cls := "SmokeTalk$Menu", name := "meaning", desc := "(I)I" } : MethodName) ({ cls := "SmokeTalk$Menu", name := "meaning", desc := "(I)I" } : MethodName)) ∈ UU := uu 537 (by decide +kernel) rfl
theorem u538 : (Cond.code ({ cls := "SmokeTalk$Menu", name := "meaning", desc := "(I)I" } : MethodName) prog_3_method_11_code (3 : Nat) (Option.some FieldType.int)) ∈ UU := uu 538 (by decide +kernel) rfl
theorem u539 : (Cond.methodLink "SmokeTalkLaw" (81 : Nat) ({ cls := "SmokeTalk", name := "chain", desc := "(III)J" } : MethodName)) ∈ UU := uu 539 (by decide +kernel) rfl
theorem u540 : (Cond.instanceMethod ({ cls := "SmokeTalk", name := "chain", desc := "(III)J" } : MethodName)) ∈ UU := uu 540 (by decide +kernel) rfl
theorem u541 : (Cond.selects "SmokeTalk" ({ cls := "SmokeTalk", name := "chain", desc := "(III)J" } : MethodName) ({ cls := "SmokeTalk", name := "chain", desc := "(III)J" } : MethodName)) ∈ UU := uu 541 (by decide +kernel) rfl
theorem u542 : (Cond.code ({ cls := "SmokeTalk", name := "chain", desc := "(III)J" } : MethodName) prog_1_method_17_code (7 : Nat) (Option.some FieldType.long)) ∈ UU := uu 542 (by decide +kernel) rfl
theorem u543 : (Cond.constantLong "SmokeTalk" (194 : Nat) (-1 : Int64)) ∈ UU := uu 543 (by decide +kernel) rfl
theorem u544 : (Cond.methodLink "SmokeTalk" (196 : Nat) ({ cls := "SmokeTalk$Menu", name := "leastSaying", desc := "(I)I" } : MethodName)) ∈ UU := uu 544 (by decide +kernel) rfl
theorem u545 : (Cond.instanceMethod ({ cls := "SmokeTalk$Menu", name := "leastSaying", desc := "(I)I" } : MethodName)) ∈ UU := uu 545 (by decide +kernel) rfl
theorem u546 : (Cond.selects "SmokeTalk$Menu" ({ cls := "SmokeTalk$Menu", name := "leastSaying", desc := "(I)I" } : MethodName) ({ cls := "SmokeTalk$Menu", name := "leastSaying", desc := "(I)I" } : MethodName)) ∈ UU := uu 546 (by decide +kernel) rfl
theorem u547 : (Cond.code ({ cls := "SmokeTalk$Menu", name := "leastSaying", desc := "(I)I" } : MethodName) prog_3_method_10_code (3 : Nat) (Option.some FieldType.int)) ∈ UU := uu 547 (by decide +kernel) rfl
theorem u548 : (Cond.methodLink "SmokeTalk" (199 : Nat) ({ cls := "SmokeTalk", name := "leastTerms", desc := "(JJI)J" } : MethodName)) ∈ UU := uu 548 (by decide +kernel) rfl
theorem u549 : (Cond.static ({ cls := "SmokeTalk", name := "leastTerms", desc := "(JJI)J" } : MethodName)) ∈ UU := uu 549 (by decide +kernel) rfl
theorem u550 : (Cond.code ({ cls := "SmokeTalk", name := "leastTerms", desc := "(JJI)J" } : MethodName) prog_1_method_35_code (12 : Nat) (Option.some FieldType.long)) ∈ UU := uu 550 (by decide +kernel) rfl
theorem u551 : (Cond.methodLink "SmokeTalk" (203 : Nat) ({ cls := "SmokeTalk$Chain", name := "begin", desc := "(I)V" } : MethodName)) ∈ UU := uu 551 (by decide +kernel) rfl
theorem u552 : (Cond.instanceMethod ({ cls := "SmokeTalk$Chain", name := "begin", desc := "(I)V" } : MethodName)) ∈ UU := uu 552 (by decide +kernel) rfl
theorem u553 : (Cond.selects "SmokeTalk$Chain" ({ cls := "SmokeTalk$Chain", name := "begin", desc := "(I)V" } : MethodName) ({ cls := "SmokeTalk$Chain", name := "begin", desc := "(I)V" } : MethodName)) ∈ UU := uu 553 (by decide +kernel) rfl
theorem u554 : (Cond.code ({ cls := "SmokeTalk$Chain", name := "begin", desc := "(I)V" } : MethodName) prog_2_method_2_code (3 : Nat) (Option.none : Option FieldType)) ∈ UU := uu 554 (by decide +kernel) rfl
theorem u555 : (Cond.methodLink "SmokeTalk" (206 : Nat) ({ cls := "SmokeTalk$Chain", name := "read", desc := "(LSmokeTalk$Menu;LSmokeTalk$Suppers;)V" } : MethodName)) ∈ UU := uu 555 (by decide +kernel) rfl
theorem u556 : (Cond.instanceMethod ({ cls := "SmokeTalk$Chain", name := "read", desc := "(LSmokeTalk$Menu;LSmokeTalk$Suppers;)V" } : MethodName)) ∈ UU := uu 556 (by decide +kernel) rfl
theorem u557 : (Cond.selects "SmokeTalk$Chain" ({ cls := "SmokeTalk$Chain", name := "read", desc := "(LSmokeTalk$Menu;LSmokeTalk$Suppers;)V" } : MethodName) ({ cls := "SmokeTalk$Chain", name := "read", desc := "(LSmokeTalk$Menu;LSmokeTalk$Suppers;)V" } : MethodName)) ∈ UU := uu 557 (by decide +kernel) rfl
theorem u558 : (Cond.code ({ cls := "SmokeTalk$Chain", name := "read", desc := "(LSmokeTalk$Menu;LSmokeTalk$Suppers;)V" } : MethodName) prog_2_method_3_code (7 : Nat) (Option.none : Option FieldType)) ∈ UU := uu 558 (by decide +kernel) rfl
theorem u559 : (Cond.methodLink "SmokeTalk$Chain" (18 : Nat) ({ cls := "SmokeTalk$Menu", name := "meaning", desc := "(I)I" } : MethodName)) ∈ UU := uu 559 (by decide +kernel) rfl
theorem u561 : (Cond.methodLink "SmokeTalk$Chain" (28 : Nat) ({ cls := "SmokeTalk$Menu", name := "leastSaying", desc := "(I)I" } : MethodName)) ∈ UU := uu 561 (by decide +kernel) rfl
theorem u562 : (Cond.methodLink "SmokeTalk$Chain" (35 : Nat) ({ cls := "SmokeTalk$Suppers", name := "thousandths", desc := "(II)I" } : MethodName)) ∈ UU := uu 562 (by decide +kernel) rfl
theorem u563 : (Cond.constantLong "SmokeTalk" (210 : Nat) (1000 : Int64)) ∈ UU := uu 563 (by decide +kernel) rfl
theorem u564 : (Cond.methodLink "SmokeTalkLaw" (86 : Nat) ({ cls := "SmokeTalk", name := "who", desc := "(III)I" } : MethodName)) ∈ UU := uu 564 (by decide +kernel) rfl
theorem u565 : (Cond.instanceMethod ({ cls := "SmokeTalk", name := "who", desc := "(III)I" } : MethodName)) ∈ UU := uu 565 (by decide +kernel) rfl
theorem u566 : (Cond.selects "SmokeTalk" ({ cls := "SmokeTalk", name := "who", desc := "(III)I" } : MethodName) ({ cls := "SmokeTalk", name := "who", desc := "(III)I" } : MethodName)) ∈ UU := uu 566 (by decide +kernel) rfl
theorem u567 : (Cond.code ({ cls := "SmokeTalk", name := "who", desc := "(III)I" } : MethodName) prog_1_method_18_code (6 : Nat) (Option.some FieldType.int)) ∈ UU := uu 567 (by decide +kernel) rfl
theorem u568 : (Cond.methodLink "SmokeTalk" (219 : Nat) ({ cls := "SmokeTalk", name := "weightOf", desc := "(II)I" } : MethodName)) ∈ UU := uu 568 (by decide +kernel) rfl
theorem u570 : (Cond.instanceMethod ({ cls := "SmokeTalk", name := "weightOf", desc := "(II)I" } : MethodName)) ∈ UU := uu 570 (by decide +kernel) rfl
theorem u571 : (Cond.code ({ cls := "SmokeTalk", name := "weightOf", desc := "(II)I" } : MethodName) prog_1_method_34_code (5 : Nat) (Option.some FieldType.int)) ∈ UU := uu 571 (by decide +kernel) rfl
theorem u572 : (Cond.methodLink "SmokeTalkLaw" (91 : Nat) ({ cls := "SmokeTalk", name := "days", desc := "(I)I" } : MethodName)) ∈ UU := uu 572 (by decide +kernel) rfl
theorem u573 : (Cond.instanceMethod ({ cls := "SmokeTalk", name := "days", desc := "(I)I" } : MethodName)) ∈ UU := uu 573 (by decide +kernel) rfl
theorem u574 : (Cond.selects "SmokeTalk" ({ cls := "SmokeTalk", name := "days", desc := "(I)I" } : MethodName) ({ cls := "SmokeTalk", name := "days", desc := "(I)I" } : MethodName)) ∈ UU := uu 574 (by decide +kernel) rfl
theorem u575 : (Cond.code ({ cls := "SmokeTalk", name := "days", desc := "(I)I" } : MethodName) prog_1_method_19_code (4 : Nat) (Option.some FieldType.int)) ∈ UU := uu 575 (by decide +kernel) rfl
theorem u576 : (Cond.methodLink "SmokeTalk" (222 : Nat) ({ cls := "SmokeTalk$Menu", name := "leanest", desc := "([I)I" } : MethodName)) ∈ UU := uu 576 (by decide +kernel) rfl
theorem u577 : (Cond.instanceMethod ({ cls := "SmokeTalk$Menu", name := "leanest", desc := "([I)I" } : MethodName)) ∈ UU := uu 577 (by decide +kernel) rfl
theorem u578 : (Cond.selects "SmokeTalk$Menu" ({ cls := "SmokeTalk$Menu", name := "leanest", desc := "([I)I" } : MethodName) ({ cls := "SmokeTalk$Menu", name := "leanest", desc := "([I)I" } : MethodName)) ∈ UU := uu 578 (by decide +kernel) rfl
theorem u579 : (Cond.code ({ cls := "SmokeTalk$Menu", name := "leanest", desc := "([I)I" } : MethodName) prog_3_method_9_code (4 : Nat) (Option.some FieldType.int)) ∈ UU := uu 579 (by decide +kernel) rfl
theorem u580 : (Cond.methodLink "SmokeTalk$Menu" (32 : Nat) ({ cls := "SmokeTalk$Menu", name := "fits", desc := "(I[I)Z" } : MethodName)) ∈ UU := uu 580 (by decide +kernel) rfl
theorem u581 : (Cond.methodLink "SmokeTalk" (226 : Nat) ({ cls := "SmokeTalk$Menu", name := "take", desc := "(I[I)V" } : MethodName)) ∈ UU := uu 581 (by decide +kernel) rfl
theorem u582 : (Cond.methodLink "SmokeTalkLaw" (95 : Nat) ({ cls := "SmokeTalk", name := "code", desc := "(III)I" } : MethodName)) ∈ UU := uu 582 (by decide +kernel) rfl
theorem u583 : (Cond.instanceMethod ({ cls := "SmokeTalk", name := "code", desc := "(III)I" } : MethodName)) ∈ UU := uu 583 (by decide +kernel) rfl
theorem u584 : (Cond.selects "SmokeTalk" ({ cls := "SmokeTalk", name := "code", desc := "(III)I" } : MethodName) ({ cls := "SmokeTalk", name := "code", desc := "(III)I" } : MethodName)) ∈ UU := uu 584 (by decide +kernel) rfl
theorem u585 : (Cond.code ({ cls := "SmokeTalk", name := "code", desc := "(III)I" } : MethodName) prog_1_method_20_code (8 : Nat) (Option.some FieldType.int)) ∈ UU := uu 585 (by decide +kernel) rfl
theorem u586 : (Cond.methodLink "SmokeTalk" (229 : Nat) ({ cls := "java/lang/Integer", name := "bitCount", desc := "(I)I" } : MethodName)) ∈ UU := uu 586 (by decide +kernel) rfl
theorem u587 : (Cond.methodLink "SmokeTalk" (237 : Nat) ({ cls := "SmokeTalk$Menu", name := "tellsApart", desc := "(III)Z" } : MethodName)) ∈ UU := uu 587 (by decide +kernel) rfl
theorem u588 : (Cond.instanceMethod ({ cls := "SmokeTalk$Menu", name := "tellsApart", desc := "(III)Z" } : MethodName)) ∈ UU := uu 588 (by decide +kernel) rfl
theorem u589 : (Cond.selects "SmokeTalk$Menu" ({ cls := "SmokeTalk$Menu", name := "tellsApart", desc := "(III)Z" } : MethodName) ({ cls := "SmokeTalk$Menu", name := "tellsApart", desc := "(III)Z" } : MethodName)) ∈ UU := uu 589 (by decide +kernel) rfl
theorem u590 : (Cond.code ({ cls := "SmokeTalk$Menu", name := "tellsApart", desc := "(III)Z" } : MethodName) prog_3_method_14_code (6 : Nat) (Option.some FieldType.boolean)) ∈ UU := uu 590 (by decide +kernel) rfl
theorem u591 : (Cond.methodLink "SmokeTalk$Menu" (36 : Nat) ({ cls := "SmokeTalk$Menu", name := "holds", desc := "(II)Z" } : MethodName)) ∈ UU := uu 591 (by decide +kernel) rfl
theorem u592 : (Cond.static ({ cls := "SmokeTalk$Menu", name := "holds", desc := "(II)Z" } : MethodName)) ∈ UU := uu 592 (by decide +kernel) rfl
theorem u593 : (Cond.code ({ cls := "SmokeTalk$Menu", name := "holds", desc := "(II)Z" } : MethodName) prog_3_method_16_code (2 : Nat) (Option.some FieldType.boolean)) ∈ UU := uu 593 (by decide +kernel) rfl
theorem u594 : (Cond.methodLink "SmokeTalk$Menu" (40 : Nat) ({ cls := "SmokeTalk$Menu", name := "standsOff", desc := "(III)Z" } : MethodName)) ∈ UU := uu 594 (by decide +kernel) rfl
theorem u596 : (Cond.instanceMethod ({ cls := "SmokeTalk$Menu", name := "standsOff", desc := "(III)Z" } : MethodName)) ∈ UU := uu 596 (by decide +kernel) rfl
theorem u597 : (Cond.code ({ cls := "SmokeTalk$Menu", name := "standsOff", desc := "(III)Z" } : MethodName) prog_3_method_15_code (5 : Nat) (Option.some FieldType.boolean)) ∈ UU := uu 597 (by decide +kernel) rfl
theorem u598 : (Cond.methodLink "SmokeTalk$Menu" (44 : Nat) ({ cls := "java/lang/Integer", name := "bitCount", desc := "(I)I" } : MethodName)) ∈ UU := uu 598 (by decide +kernel) rfl
theorem u599 : (Cond.methodLink "SmokeTalk" (240 : Nat) ({ cls := "java/lang/Math", name := "max", desc := "(II)I" } : MethodName)) ∈ UU := uu 599 (by decide +kernel) rfl
theorem u600 : (Cond.static ({ cls := "java/lang/Math", name := "max", desc := "(II)I" } : MethodName)) ∈ UU := uu 600 (by decide +kernel) rfl
theorem u601 : (Cond.code ({ cls := "java/lang/Math", name := "max", desc := "(II)I" } : MethodName) prog_11_method_65_code (2 : Nat) (Option.some FieldType.int)) ∈ UU := uu 601 (by decide +kernel) rfl
theorem u602 : (Cond.methodLink "SmokeTalkLaw" (99 : Nat) ({ cls := "SmokeTalk", name := "feast", desc := "(II)I" } : MethodName)) ∈ UU := uu 602 (by decide +kernel) rfl
theorem u603 : (Cond.instanceMethod ({ cls := "SmokeTalk", name := "feast", desc := "(II)I" } : MethodName)) ∈ UU := uu 603 (by decide +kernel) rfl
theorem u604 : (Cond.selects "SmokeTalk" ({ cls := "SmokeTalk", name := "feast", desc := "(II)I" } : MethodName) ({ cls := "SmokeTalk", name := "feast", desc := "(II)I" } : MethodName)) ∈ UU := uu 604 (by decide +kernel) rfl
theorem u605 : (Cond.code ({ cls := "SmokeTalk", name := "feast", desc := "(II)I" } : MethodName) prog_1_method_21_code (6 : Nat) (Option.some FieldType.int)) ∈ UU := uu 605 (by decide +kernel) rfl
theorem u606 : (Cond.methodLink "SmokeTalk" (243 : Nat) ({ cls := "SmokeTalk$Menu", name := "smokeOfAll", desc := "(I)I" } : MethodName)) ∈ UU := uu 606 (by decide +kernel) rfl
theorem u607 : (Cond.instanceMethod ({ cls := "SmokeTalk$Menu", name := "smokeOfAll", desc := "(I)I" } : MethodName)) ∈ UU := uu 607 (by decide +kernel) rfl
theorem u608 : (Cond.selects "SmokeTalk$Menu" ({ cls := "SmokeTalk$Menu", name := "smokeOfAll", desc := "(I)I" } : MethodName) ({ cls := "SmokeTalk$Menu", name := "smokeOfAll", desc := "(I)I" } : MethodName)) ∈ UU := uu 608 (by decide +kernel) rfl
theorem u609 : (Cond.code ({ cls := "SmokeTalk$Menu", name := "smokeOfAll", desc := "(I)I" } : MethodName) prog_3_method_12_code (4 : Nat) (Option.some FieldType.int)) ∈ UU := uu 609 (by decide +kernel) rfl
theorem u610 : (Cond.methodLink "SmokeTalk" (246 : Nat) ({ cls := "SmokeTalk$Menu", name := "anySays", desc := "(II)Z" } : MethodName)) ∈ UU := uu 610 (by decide +kernel) rfl
theorem u611 : (Cond.instanceMethod ({ cls := "SmokeTalk$Menu", name := "anySays", desc := "(II)Z" } : MethodName)) ∈ UU := uu 611 (by decide +kernel) rfl
theorem u612 : (Cond.selects "SmokeTalk$Menu" ({ cls := "SmokeTalk$Menu", name := "anySays", desc := "(II)Z" } : MethodName) ({ cls := "SmokeTalk$Menu", name := "anySays", desc := "(II)Z" } : MethodName)) ∈ UU := uu 612 (by decide +kernel) rfl
theorem u613 : (Cond.code ({ cls := "SmokeTalk$Menu", name := "anySays", desc := "(II)Z" } : MethodName) prog_3_method_13_code (4 : Nat) (Option.some FieldType.boolean)) ∈ UU := uu 613 (by decide +kernel) rfl
theorem u614 : (Cond.methodLink "SmokeTalkLaw" (103 : Nat) ({ cls := "SmokeTalk", name := "silent", desc := "(I)I" } : MethodName)) ∈ UU := uu 614 (by decide +kernel) rfl
theorem u615 : (Cond.instanceMethod ({ cls := "SmokeTalk", name := "silent", desc := "(I)I" } : MethodName)) ∈ UU := uu 615 (by decide +kernel) rfl
theorem u616 : (Cond.selects "SmokeTalk" ({ cls := "SmokeTalk", name := "silent", desc := "(I)I" } : MethodName) ({ cls := "SmokeTalk", name := "silent", desc := "(I)I" } : MethodName)) ∈ UU := uu 616 (by decide +kernel) rfl
theorem u617 : (Cond.code ({ cls := "SmokeTalk", name := "silent", desc := "(I)I" } : MethodName) prog_1_method_22_code (4 : Nat) (Option.some FieldType.int)) ∈ UU := uu 617 (by decide +kernel) rfl
theorem u618 : (Cond.methodLink "SmokeTalkLaw" (107 : Nat) ({ cls := "SmokeTalk", name := "drawn", desc := "(I)I" } : MethodName)) ∈ UU := uu 618 (by decide +kernel) rfl
theorem u619 : (Cond.instanceMethod ({ cls := "SmokeTalk", name := "drawn", desc := "(I)I" } : MethodName)) ∈ UU := uu 619 (by decide +kernel) rfl
theorem u620 : (Cond.selects "SmokeTalk" ({ cls := "SmokeTalk", name := "drawn", desc := "(I)I" } : MethodName) ({ cls := "SmokeTalk", name := "drawn", desc := "(I)I" } : MethodName)) ∈ UU := uu 620 (by decide +kernel) rfl
theorem u621 : (Cond.code ({ cls := "SmokeTalk", name := "drawn", desc := "(I)I" } : MethodName) prog_1_method_23_code (4 : Nat) (Option.some FieldType.int)) ∈ UU := uu 621 (by decide +kernel) rfl
theorem u622 : (Cond.methodLink "SmokeTalk" (249 : Nat) ({ cls := "SmokeTalk$Suppers", name := "draw", desc := "()I" } : MethodName)) ∈ UU := uu 622 (by decide +kernel) rfl
theorem u623 : (Cond.instanceMethod ({ cls := "SmokeTalk$Suppers", name := "draw", desc := "()I" } : MethodName)) ∈ UU := uu 623 (by decide +kernel) rfl
theorem u624 : (Cond.selects "SmokeTalk$Suppers" ({ cls := "SmokeTalk$Suppers", name := "draw", desc := "()I" } : MethodName) ({ cls := "SmokeTalk$Suppers", name := "draw", desc := "()I" } : MethodName)) ∈ UU := uu 624 (by decide +kernel) rfl
theorem u625 : (Cond.code ({ cls := "SmokeTalk$Suppers", name := "draw", desc := "()I" } : MethodName) prog_5_method_11_code (1 : Nat) (Option.some FieldType.int)) ∈ UU := uu 625 (by decide +kernel) rfl
theorem u626 : (Cond.constant "SmokeTalk$Suppers" (42 : Nat) (1103515245 : Int32)) ∈ UU := uu 626 (by decide +kernel) rfl
theorem u627 : (Cond.methodLink "SmokeTalkLaw" (111 : Nat) ({ cls := "SmokeTalk", name := "lot", desc := "(I)I" } : MethodName)) ∈ UU := uu 627 (by decide +kernel) rfl
theorem u628 : (Cond.instanceMethod ({ cls := "SmokeTalk", name := "lot", desc := "(I)I" } : MethodName)) ∈ UU := uu 628 (by decide +kernel) rfl
theorem u629 : (Cond.selects "SmokeTalk" ({ cls := "SmokeTalk", name := "lot", desc := "(I)I" } : MethodName) ({ cls := "SmokeTalk", name := "lot", desc := "(I)I" } : MethodName)) ∈ UU := uu 629 (by decide +kernel) rfl
theorem u630 : (Cond.code ({ cls := "SmokeTalk", name := "lot", desc := "(I)I" } : MethodName) prog_1_method_24_code (3 : Nat) (Option.some FieldType.int)) ∈ UU := uu 630 (by decide +kernel) rfl
theorem u631 : (Cond.methodLink "SmokeTalkLaw" (115 : Nat) ({ cls := "SmokeTalk", name := "mark", desc := "(II)I" } : MethodName)) ∈ UU := uu 631 (by decide +kernel) rfl
theorem u632 : (Cond.instanceMethod ({ cls := "SmokeTalk", name := "mark", desc := "(II)I" } : MethodName)) ∈ UU := uu 632 (by decide +kernel) rfl
theorem u633 : (Cond.selects "SmokeTalk" ({ cls := "SmokeTalk", name := "mark", desc := "(II)I" } : MethodName) ({ cls := "SmokeTalk", name := "mark", desc := "(II)I" } : MethodName)) ∈ UU := uu 633 (by decide +kernel) rfl
theorem u634 : (Cond.code ({ cls := "SmokeTalk", name := "mark", desc := "(II)I" } : MethodName) prog_1_method_25_code (3 : Nat) (Option.some FieldType.int)) ∈ UU := uu 634 (by decide +kernel) rfl
theorem u635 : (Cond.constant "SmokeTalk" (253 : Nat) (-1000000 : Int32)) ∈ UU := uu 635 (by decide +kernel) rfl
theorem u636 : (Cond.methodLink "SmokeTalk" (254 : Nat) ({ cls := "SmokeTalk", name := "markOfDish", desc := "(I)I" } : MethodName)) ∈ UU := uu 636 (by decide +kernel) rfl
theorem u638 : (Cond.instanceMethod ({ cls := "SmokeTalk", name := "markOfDish", desc := "(I)I" } : MethodName)) ∈ UU := uu 638 (by decide +kernel) rfl
theorem u639 : (Cond.code ({ cls := "SmokeTalk", name := "markOfDish", desc := "(I)I" } : MethodName) prog_1_method_37_code (2 : Nat) (Option.some FieldType.int)) ∈ UU := uu 639 (by decide +kernel) rfl
theorem u640 : (Cond.methodLink "SmokeTalk" (257 : Nat) ({ cls := "SmokeTalk", name := "markOfStew", desc := "(I)I" } : MethodName)) ∈ UU := uu 640 (by decide +kernel) rfl
theorem u642 : (Cond.instanceMethod ({ cls := "SmokeTalk", name := "markOfStew", desc := "(I)I" } : MethodName)) ∈ UU := uu 642 (by decide +kernel) rfl
theorem u643 : (Cond.code ({ cls := "SmokeTalk", name := "markOfStew", desc := "(I)I" } : MethodName) prog_1_method_38_code (2 : Nat) (Option.some FieldType.int)) ∈ UU := uu 643 (by decide +kernel) rfl
theorem u644 : (Cond.constantLong "SmokeTalk" (280 : Nat) (10 : Int64)) ∈ UU := uu 644 (by decide +kernel) rfl
theorem u645 : (Cond.methodLink "SmokeTalk" (260 : Nat) ({ cls := "SmokeTalk", name := "markOfRoast", desc := "(I)I" } : MethodName)) ∈ UU := uu 645 (by decide +kernel) rfl
theorem u647 : (Cond.instanceMethod ({ cls := "SmokeTalk", name := "markOfRoast", desc := "(I)I" } : MethodName)) ∈ UU := uu 647 (by decide +kernel) rfl
theorem u648 : (Cond.code ({ cls := "SmokeTalk", name := "markOfRoast", desc := "(I)I" } : MethodName) prog_1_method_39_code (2 : Nat) (Option.some FieldType.int)) ∈ UU := uu 648 (by decide +kernel) rfl
theorem u649 : (Cond.constantLong "SmokeTalk" (282 : Nat) (100 : Int64)) ∈ UU := uu 649 (by decide +kernel) rfl
theorem u650 : (Cond.methodLink "SmokeTalk" (263 : Nat) ({ cls := "SmokeTalk", name := "markOfBrides", desc := "(I)I" } : MethodName)) ∈ UU := uu 650 (by decide +kernel) rfl
theorem u652 : (Cond.instanceMethod ({ cls := "SmokeTalk", name := "markOfBrides", desc := "(I)I" } : MethodName)) ∈ UU := uu 652 (by decide +kernel) rfl
theorem u653 : (Cond.code ({ cls := "SmokeTalk", name := "markOfBrides", desc := "(I)I" } : MethodName) prog_1_method_40_code (2 : Nat) (Option.some FieldType.int)) ∈ UU := uu 653 (by decide +kernel) rfl
theorem u654 : (Cond.methodLink "SmokeTalk" (266 : Nat) ({ cls := "SmokeTalk", name := "markOfPoor", desc := "(I)I" } : MethodName)) ∈ UU := uu 654 (by decide +kernel) rfl
theorem u656 : (Cond.instanceMethod ({ cls := "SmokeTalk", name := "markOfPoor", desc := "(I)I" } : MethodName)) ∈ UU := uu 656 (by decide +kernel) rfl
theorem u657 : (Cond.code ({ cls := "SmokeTalk", name := "markOfPoor", desc := "(I)I" } : MethodName) prog_1_method_41_code (2 : Nat) (Option.some FieldType.int)) ∈ UU := uu 657 (by decide +kernel) rfl
theorem u658 : (Cond.constantLong "SmokeTalk" (284 : Nat) (10000 : Int64)) ∈ UU := uu 658 (by decide +kernel) rfl
theorem u659 : (Cond.methodLink "SmokeTalk" (269 : Nat) ({ cls := "SmokeTalk", name := "markOfBurnt", desc := "(I)I" } : MethodName)) ∈ UU := uu 659 (by decide +kernel) rfl
theorem u661 : (Cond.instanceMethod ({ cls := "SmokeTalk", name := "markOfBurnt", desc := "(I)I" } : MethodName)) ∈ UU := uu 661 (by decide +kernel) rfl
theorem u662 : (Cond.code ({ cls := "SmokeTalk", name := "markOfBurnt", desc := "(I)I" } : MethodName) prog_1_method_42_code (2 : Nat) (Option.some FieldType.int)) ∈ UU := uu 662 (by decide +kernel) rfl
theorem u663 : (Cond.constantLong "SmokeTalk" (286 : Nat) (100000 : Int64)) ∈ UU := uu 663 (by decide +kernel) rfl
theorem u664 : (Cond.methodLink "SmokeTalkLaw" (119 : Nat) ({ cls := "SmokeTalk", name := "keep", desc := "(I)I" } : MethodName)) ∈ UU := uu 664 (by decide +kernel) rfl
theorem u665 : (Cond.instanceMethod ({ cls := "SmokeTalk", name := "keep", desc := "(I)I" } : MethodName)) ∈ UU := uu 665 (by decide +kernel) rfl
theorem u666 : (Cond.selects "SmokeTalk" ({ cls := "SmokeTalk", name := "keep", desc := "(I)I" } : MethodName) ({ cls := "SmokeTalk", name := "keep", desc := "(I)I" } : MethodName)) ∈ UU := uu 666 (by decide +kernel) rfl
theorem u667 : (Cond.code ({ cls := "SmokeTalk", name := "keep", desc := "(I)I" } : MethodName) prog_1_method_26_code (3 : Nat) (Option.some FieldType.int)) ∈ UU := uu 667 (by decide +kernel) rfl
theorem u668 : (Cond.methodLink "SmokeTalk" (272 : Nat) ({ cls := "SmokeTalk", name := "imageOf", desc := "(I)LSmokeTalk$Suppers;" } : MethodName)) ∈ UU := uu 668 (by decide +kernel) rfl
theorem u670 : (Cond.instanceMethod ({ cls := "SmokeTalk", name := "imageOf", desc := "(I)LSmokeTalk$Suppers;" } : MethodName)) ∈ UU := uu 670 (by decide +kernel) rfl
theorem u671 : (Cond.code ({ cls := "SmokeTalk", name := "imageOf", desc := "(I)LSmokeTalk$Suppers;" } : MethodName) prog_1_method_36_code (2 : Nat) (Option.some (FieldType.object "SmokeTalk$Suppers"))) ∈ UU := uu 671 (by decide +kernel) rfl
theorem u672 : (Cond.methodLink "SmokeTalkLaw" (123 : Nat) ({ cls := "SmokeTalk", name := "back", desc := "(I)I" } : MethodName)) ∈ UU := uu 672 (by decide +kernel) rfl
theorem u673 : (Cond.instanceMethod ({ cls := "SmokeTalk", name := "back", desc := "(I)I" } : MethodName)) ∈ UU := uu 673 (by decide +kernel) rfl
theorem u674 : (Cond.selects "SmokeTalk" ({ cls := "SmokeTalk", name := "back", desc := "(I)I" } : MethodName) ({ cls := "SmokeTalk", name := "back", desc := "(I)I" } : MethodName)) ∈ UU := uu 674 (by decide +kernel) rfl
theorem u675 : (Cond.code ({ cls := "SmokeTalk", name := "back", desc := "(I)I" } : MethodName) prog_1_method_27_code (3 : Nat) (Option.some FieldType.int)) ∈ UU := uu 675 (by decide +kernel) rfl
theorem u676 : (Cond.methodLink "SmokeTalkLaw" (127 : Nat) ({ cls := "SmokeTalk", name := "count", desc := "(I)I" } : MethodName)) ∈ UU := uu 676 (by decide +kernel) rfl
theorem u677 : (Cond.instanceMethod ({ cls := "SmokeTalk", name := "count", desc := "(I)I" } : MethodName)) ∈ UU := uu 677 (by decide +kernel) rfl
theorem u678 : (Cond.selects "SmokeTalk" ({ cls := "SmokeTalk", name := "count", desc := "(I)I" } : MethodName) ({ cls := "SmokeTalk", name := "count", desc := "(I)I" } : MethodName)) ∈ UU := uu 678 (by decide +kernel) rfl
theorem u679 : (Cond.code ({ cls := "SmokeTalk", name := "count", desc := "(I)I" } : MethodName) prog_1_method_28_code (2 : Nat) (Option.some FieldType.int)) ∈ UU := uu 679 (by decide +kernel) rfl
theorem u680 : (Cond.methodLink "SmokeTalkLaw" (131 : Nat) ({ cls := "SmokeTalk", name := "trace", desc := "()J" } : MethodName)) ∈ UU := uu 680 (by decide +kernel) rfl
theorem u681 : (Cond.instanceMethod ({ cls := "SmokeTalk", name := "trace", desc := "()J" } : MethodName)) ∈ UU := uu 681 (by decide +kernel) rfl
theorem u682 : (Cond.selects "SmokeTalk" ({ cls := "SmokeTalk", name := "trace", desc := "()J" } : MethodName) ({ cls := "SmokeTalk", name := "trace", desc := "()J" } : MethodName)) ∈ UU := uu 682 (by decide +kernel) rfl
theorem u683 : (Cond.code ({ cls := "SmokeTalk", name := "trace", desc := "()J" } : MethodName) prog_1_method_29_code (1 : Nat) (Option.some FieldType.long)) ∈ UU := uu 683 (by decide +kernel) rfl
theorem u684 : (Cond.classLink "SmokeTalkLaw" (10 : Nat) "SmokeTalkModel") ∈ UU := uu 684 (by decide +kernel) rfl
theorem u685 : (Cond.instantiable "SmokeTalkModel" (24 : Nat)) ∈ UU := uu 685 (by decide +kernel) rfl
theorem u686 : (Cond.methodLink "SmokeTalkLaw" (12 : Nat) ({ cls := "SmokeTalkModel", name := "<init>", desc := "()V" } : MethodName)) ∈ UU := uu 686 (by decide +kernel) rfl
theorem u687 : (Cond.instanceMethod ({ cls := "SmokeTalkModel", name := "<init>", desc := "()V" } : MethodName)) ∈ UU := uu 687 (by decide +kernel) rfl
theorem u688 : (Cond.code ({ cls := "SmokeTalkModel", name := "<init>", desc := "()V" } : MethodName) prog_9_method_1_code (1 : Nat) (Option.none : Option FieldType)) ∈ UU := uu 688 (by decide +kernel) rfl
theorem u689 : (Cond.methodLink "SmokeTalkModel" (1 : Nat) ({ cls := "java/lang/Object", name := "<init>", desc := "()V" } : MethodName)) ∈ UU := uu 689 (by decide +kernel) rfl
theorem u690 : (Cond.fieldLink "SmokeTalkModel" (177 : Nat) "SmokeTalkModel" "trace" "J") ∈ UU := uu 690 (by decide +kernel) rfl
theorem u691 : (Cond.fieldLink "SmokeTalkModel" (7 : Nat) "SmokeTalkModel" "text" "[B") ∈ UU := uu 691 (by decide +kernel) rfl
theorem u692 : (Cond.fieldLink "SmokeTalkModel" (65 : Nat) "SmokeTalkModel" "typed" "I") ∈ UU := uu 692 (by decide +kernel) rfl
theorem u693 : (Cond.fieldLink "SmokeTalkModel" (13 : Nat) "SmokeTalkModel" "houses" "[I") ∈ UU := uu 693 (by decide +kernel) rfl
theorem u694 : (Cond.fieldLink "SmokeTalkModel" (17 : Nat) "SmokeTalkModel" "larder" "[I") ∈ UU := uu 694 (by decide +kernel) rfl
theorem u695 : (Cond.fieldLink "SmokeTalkModel" (20 : Nat) "SmokeTalkModel" "dishes" "[I") ∈ UU := uu 695 (by decide +kernel) rfl
theorem u696 : (Cond.fieldLink "SmokeTalkModel" (23 : Nat) "SmokeTalkModel" "needs" "[I") ∈ UU := uu 696 (by decide +kernel) rfl
theorem u697 : (Cond.fieldLink "SmokeTalkModel" (26 : Nat) "SmokeTalkModel" "smoke" "[I") ∈ UU := uu 697 (by decide +kernel) rfl
theorem u698 : (Cond.fieldLink "SmokeTalkModel" (29 : Nat) "SmokeTalkModel" "word" "[I") ∈ UU := uu 698 (by decide +kernel) rfl
theorem u699 : (Cond.fieldLink "SmokeTalkModel" (32 : Nat) "SmokeTalkModel" "fogs" "[I") ∈ UU := uu 699 (by decide +kernel) rfl
theorem u700 : (Cond.fieldLink "SmokeTalkModel" (71 : Nat) "SmokeTalkModel" "at" "I") ∈ UU := uu 700 (by decide +kernel) rfl
theorem u701 : (Cond.fieldLink "SmokeTalkModel" (78 : Nat) "SmokeTalkModel" "start" "I") ∈ UU := uu 701 (by decide +kernel) rfl
theorem u702 : (Cond.fieldLink "SmokeTalkModel" (84 : Nat) "SmokeTalkModel" "sort" "I") ∈ UU := uu 702 (by decide +kernel) rfl
theorem u703 : (Cond.fieldLink "SmokeTalkModel" (81 : Nat) "SmokeTalkModel" "value" "I") ∈ UU := uu 703 (by decide +kernel) rfl
theorem u704 : (Cond.fieldLink "SmokeTalkModel" (91 : Nat) "SmokeTalkModel" "fault" "I") ∈ UU := uu 704 (by decide +kernel) rfl
theorem u705 : (Cond.fieldLink "SmokeTalkModel" (101 : Nat) "SmokeTalkModel" "hasFog" "Z") ∈ UU := uu 705 (by decide +kernel) rfl
theorem u706 : (Cond.fieldLink "SmokeTalkModel" (35 : Nat) "SmokeTalkModel" "now" "[I") ∈ UU := uu 706 (by decide +kernel) rfl
theorem u707 : (Cond.fieldLink "SmokeTalkModel" (38 : Nat) "SmokeTalkModel" "isKept" "[Z") ∈ UU := uu 707 (by decide +kernel) rfl
theorem u708 : (Cond.fieldLink "SmokeTalkModel" (42 : Nat) "SmokeTalkModel" "row" "[I") ∈ UU := uu 708 (by decide +kernel) rfl
theorem u709 : (Cond.fieldLink "SmokeTalkModel" (45 : Nat) "SmokeTalkModel" "best" "[I") ∈ UU := uu 709 (by decide +kernel) rfl
theorem u710 : (Cond.fieldLink "SmokeTalkModel" (48 : Nat) "SmokeTalkModel" "asked" "[I") ∈ UU := uu 710 (by decide +kernel) rfl
theorem u711 : (Cond.fieldLink "SmokeTalkModel" (51 : Nat) "SmokeTalkModel" "share" "[J") ∈ UU := uu 711 (by decide +kernel) rfl
theorem u712 : (Cond.fieldLink "SmokeTalkModel" (55 : Nat) "SmokeTalkModel" "then" "[J") ∈ UU := uu 712 (by decide +kernel) rfl
theorem u713 : (Cond.fieldLink "SmokeTalkModel" (58 : Nat) "SmokeTalkModel" "left" "[I") ∈ UU := uu 713 (by decide +kernel) rfl
theorem u763 : (Cond.arrayClass FieldType.boolean) ∈ UU := uu 763 (by decide +kernel) rfl
theorem u764 : (Cond.methodLink "SmokeTalkLaw" (19 : Nat) ({ cls := "SmokeTalkModel", name := "type", desc := "(JI)I" } : MethodName)) ∈ UU := uu 764 (by decide +kernel) rfl
theorem u765 : (Cond.instanceMethod ({ cls := "SmokeTalkModel", name := "type", desc := "(JI)I" } : MethodName)) ∈ UU := uu 765 (by decide +kernel) rfl
theorem u766 : (Cond.selects "SmokeTalkModel" ({ cls := "SmokeTalkModel", name := "type", desc := "(JI)I" } : MethodName) ({ cls := "SmokeTalkModel", name := "type", desc := "(JI)I" } : MethodName)) ∈ UU := uu 766 (by decide +kernel) rfl
theorem u767 : (Cond.code ({ cls := "SmokeTalkModel", name := "type", desc := "(JI)I" } : MethodName) prog_9_method_4_code (5 : Nat) (Option.some FieldType.int)) ∈ UU := uu 767 (by decide +kernel) rfl
theorem u768 : (Cond.methodLink "SmokeTalkModel" (61 : Nat) ({ cls := "SmokeTalkModel", name := "in", desc := "(III)Z" } : MethodName)) ∈ UU := uu 768 (by decide +kernel) rfl
theorem u769 : (Cond.static ({ cls := "SmokeTalkModel", name := "in", desc := "(III)Z" } : MethodName)) ∈ UU := uu 769 (by decide +kernel) rfl
theorem u770 : (Cond.code ({ cls := "SmokeTalkModel", name := "in", desc := "(III)Z" } : MethodName) prog_9_method_3_code (3 : Nat) (Option.some FieldType.boolean)) ∈ UU := uu 770 (by decide +kernel) rfl
theorem u771 : (Cond.constantLong "SmokeTalkModel" (69 : Nat) (255 : Int64)) ∈ UU := uu 771 (by decide +kernel) rfl
theorem u772 : (Cond.methodLink "SmokeTalkLaw" (24 : Nat) ({ cls := "SmokeTalkModel", name := "clear", desc := "()I" } : MethodName)) ∈ UU := uu 772 (by decide +kernel) rfl
theorem u773 : (Cond.instanceMethod ({ cls := "SmokeTalkModel", name := "clear", desc := "()I" } : MethodName)) ∈ UU := uu 773 (by decide +kernel) rfl
theorem u774 : (Cond.selects "SmokeTalkModel" ({ cls := "SmokeTalkModel", name := "clear", desc := "()I" } : MethodName) ({ cls := "SmokeTalkModel", name := "clear", desc := "()I" } : MethodName)) ∈ UU := uu 774 (by decide +kernel) rfl
theorem u775 : (Cond.code ({ cls := "SmokeTalkModel", name := "clear", desc := "()I" } : MethodName) prog_9_method_5_code (2 : Nat) (Option.some FieldType.int)) ∈ UU := uu 775 (by decide +kernel) rfl
theorem u776 : (Cond.methodLink "SmokeTalkLaw" (28 : Nat) ({ cls := "SmokeTalkModel", name := "valley", desc := "()I" } : MethodName)) ∈ UU := uu 776 (by decide +kernel) rfl
theorem u777 : (Cond.instanceMethod ({ cls := "SmokeTalkModel", name := "valley", desc := "()I" } : MethodName)) ∈ UU := uu 777 (by decide +kernel) rfl
theorem u778 : (Cond.selects "SmokeTalkModel" ({ cls := "SmokeTalkModel", name := "valley", desc := "()I" } : MethodName) ({ cls := "SmokeTalkModel", name := "valley", desc := "()I" } : MethodName)) ∈ UU := uu 778 (by decide +kernel) rfl
theorem u779 : (Cond.code ({ cls := "SmokeTalkModel", name := "valley", desc := "()I" } : MethodName) prog_9_method_12_code (3 : Nat) (Option.some FieldType.int)) ∈ UU := uu 779 (by decide +kernel) rfl
theorem u780 : (Cond.methodLink "SmokeTalkModel" (94 : Nat) ({ cls := "SmokeTalkModel", name := "next", desc := "()V" } : MethodName)) ∈ UU := uu 780 (by decide +kernel) rfl
theorem u782 : (Cond.instanceMethod ({ cls := "SmokeTalkModel", name := "next", desc := "()V" } : MethodName)) ∈ UU := uu 782 (by decide +kernel) rfl
theorem u783 : (Cond.code ({ cls := "SmokeTalkModel", name := "next", desc := "()V" } : MethodName) prog_9_method_8_code (3 : Nat) (Option.none : Option FieldType)) ∈ UU := uu 783 (by decide +kernel) rfl
theorem u784 : (Cond.methodLink "SmokeTalkModel" (74 : Nat) ({ cls := "SmokeTalkModel", name := "here", desc := "()I" } : MethodName)) ∈ UU := uu 784 (by decide +kernel) rfl
theorem u786 : (Cond.instanceMethod ({ cls := "SmokeTalkModel", name := "here", desc := "()I" } : MethodName)) ∈ UU := uu 786 (by decide +kernel) rfl
theorem u787 : (Cond.code ({ cls := "SmokeTalkModel", name := "here", desc := "()I" } : MethodName) prog_9_method_6_code (1 : Nat) (Option.some FieldType.int)) ∈ UU := uu 787 (by decide +kernel) rfl
theorem u788 : (Cond.methodLink "SmokeTalkModel" (87 : Nat) ({ cls := "SmokeTalkModel", name := "meaning", desc := "(I)I" } : MethodName)) ∈ UU := uu 788 (by decide +kernel) rfl
theorem u789 : (Cond.static ({ cls := "SmokeTalkModel", name := "meaning", desc := "(I)I" } : MethodName)) ∈ UU := uu 789 (by decide +kernel) rfl
theorem u790 : (Cond.code ({ cls := "SmokeTalkModel", name := "meaning", desc := "(I)I" } : MethodName) prog_9_method_7_code (1 : Nat) (Option.some FieldType.int)) ∈ UU := uu 790 (by decide +kernel) rfl
theorem u791 : (Cond.methodLink "SmokeTalkModel" (108 : Nat) ({ cls := "SmokeTalkModel", name := "readItem", desc := "()V" } : MethodName)) ∈ UU := uu 791 (by decide +kernel) rfl
theorem u793 : (Cond.instanceMethod ({ cls := "SmokeTalkModel", name := "readItem", desc := "()V" } : MethodName)) ∈ UU := uu 793 (by decide +kernel) rfl
theorem u794 : (Cond.code ({ cls := "SmokeTalkModel", name := "readItem", desc := "()V" } : MethodName) prog_9_method_11_code (4 : Nat) (Option.none : Option FieldType)) ∈ UU := uu 794 (by decide +kernel) rfl
theorem u795 : (Cond.methodLink "SmokeTalkModel" (97 : Nat) ({ cls := "SmokeTalkModel", name := "due", desc := "(Z)I" } : MethodName)) ∈ UU := uu 795 (by decide +kernel) rfl
theorem u797 : (Cond.instanceMethod ({ cls := "SmokeTalkModel", name := "due", desc := "(Z)I" } : MethodName)) ∈ UU := uu 797 (by decide +kernel) rfl
theorem u798 : (Cond.code ({ cls := "SmokeTalkModel", name := "due", desc := "(Z)I" } : MethodName) prog_9_method_9_code (3 : Nat) (Option.some FieldType.int)) ∈ UU := uu 798 (by decide +kernel) rfl
theorem u799 : (Cond.methodLink "SmokeTalkModel" (105 : Nat) ({ cls := "SmokeTalkModel", name := "number", desc := "(I)I" } : MethodName)) ∈ UU := uu 799 (by decide +kernel) rfl
theorem u801 : (Cond.instanceMethod ({ cls := "SmokeTalkModel", name := "number", desc := "(I)I" } : MethodName)) ∈ UU := uu 801 (by decide +kernel) rfl
theorem u802 : (Cond.code ({ cls := "SmokeTalkModel", name := "number", desc := "(I)I" } : MethodName) prog_9_method_10_code (2 : Nat) (Option.some FieldType.int)) ∈ UU := uu 802 (by decide +kernel) rfl
theorem u803 : (Cond.methodLink "SmokeTalkLaw" (33 : Nat) ({ cls := "SmokeTalkModel", name := "house", desc := "(II)I" } : MethodName)) ∈ UU := uu 803 (by decide +kernel) rfl
theorem u804 : (Cond.instanceMethod ({ cls := "SmokeTalkModel", name := "house", desc := "(II)I" } : MethodName)) ∈ UU := uu 804 (by decide +kernel) rfl
theorem u805 : (Cond.selects "SmokeTalkModel" ({ cls := "SmokeTalkModel", name := "house", desc := "(II)I" } : MethodName) ({ cls := "SmokeTalkModel", name := "house", desc := "(II)I" } : MethodName)) ∈ UU := uu 805 (by decide +kernel) rfl
theorem u806 : (Cond.code ({ cls := "SmokeTalkModel", name := "house", desc := "(II)I" } : MethodName) prog_9_method_18_code (3 : Nat) (Option.some FieldType.int)) ∈ UU := uu 806 (by decide +kernel) rfl
theorem u807 : (Cond.methodLink "SmokeTalkModel" (111 : Nat) ({ cls := "SmokeTalkModel", name := "isHouse", desc := "(I)Z" } : MethodName)) ∈ UU := uu 807 (by decide +kernel) rfl
theorem u809 : (Cond.instanceMethod ({ cls := "SmokeTalkModel", name := "isHouse", desc := "(I)Z" } : MethodName)) ∈ UU := uu 809 (by decide +kernel) rfl
theorem u810 : (Cond.code ({ cls := "SmokeTalkModel", name := "isHouse", desc := "(I)Z" } : MethodName) prog_9_method_13_code (2 : Nat) (Option.some FieldType.boolean)) ∈ UU := uu 810 (by decide +kernel) rfl
theorem u811 : (Cond.methodLink "SmokeTalkModel" (115 : Nat) ({ cls := "SmokeTalkModel", name := "storeOf", desc := "(I)I" } : MethodName)) ∈ UU := uu 811 (by decide +kernel) rfl
theorem u813 : (Cond.instanceMethod ({ cls := "SmokeTalkModel", name := "storeOf", desc := "(I)I" } : MethodName)) ∈ UU := uu 813 (by decide +kernel) rfl
theorem u814 : (Cond.code ({ cls := "SmokeTalkModel", name := "storeOf", desc := "(I)I" } : MethodName) prog_9_method_17_code (4 : Nat) (Option.some FieldType.int)) ∈ UU := uu 814 (by decide +kernel) rfl
theorem u815 : (Cond.methodLink "SmokeTalkLaw" (37 : Nat) ({ cls := "SmokeTalkModel", name := "dish", desc := "(II)I" } : MethodName)) ∈ UU := uu 815 (by decide +kernel) rfl
theorem u816 : (Cond.instanceMethod ({ cls := "SmokeTalkModel", name := "dish", desc := "(II)I" } : MethodName)) ∈ UU := uu 816 (by decide +kernel) rfl
theorem u817 : (Cond.selects "SmokeTalkModel" ({ cls := "SmokeTalkModel", name := "dish", desc := "(II)I" } : MethodName) ({ cls := "SmokeTalkModel", name := "dish", desc := "(II)I" } : MethodName)) ∈ UU := uu 817 (by decide +kernel) rfl
theorem u818 : (Cond.code ({ cls := "SmokeTalkModel", name := "dish", desc := "(II)I" } : MethodName) prog_9_method_19_code (3 : Nat) (Option.some FieldType.int)) ∈ UU := uu 818 (by decide +kernel) rfl
theorem u819 : (Cond.methodLink "SmokeTalkModel" (118 : Nat) ({ cls := "SmokeTalkModel", name := "isDish", desc := "(I)Z" } : MethodName)) ∈ UU := uu 819 (by decide +kernel) rfl
theorem u821 : (Cond.instanceMethod ({ cls := "SmokeTalkModel", name := "isDish", desc := "(I)Z" } : MethodName)) ∈ UU := uu 821 (by decide +kernel) rfl
theorem u822 : (Cond.code ({ cls := "SmokeTalkModel", name := "isDish", desc := "(I)Z" } : MethodName) prog_9_method_14_code (2 : Nat) (Option.some FieldType.boolean)) ∈ UU := uu 822 (by decide +kernel) rfl
theorem u823 : (Cond.methodLink "SmokeTalkModel" (121 : Nat) ({ cls := "SmokeTalkModel", name := "unitsOf", desc := "(I)I" } : MethodName)) ∈ UU := uu 823 (by decide +kernel) rfl
theorem u825 : (Cond.instanceMethod ({ cls := "SmokeTalkModel", name := "unitsOf", desc := "(I)I" } : MethodName)) ∈ UU := uu 825 (by decide +kernel) rfl
theorem u826 : (Cond.code ({ cls := "SmokeTalkModel", name := "unitsOf", desc := "(I)I" } : MethodName) prog_9_method_16_code (4 : Nat) (Option.some FieldType.int)) ∈ UU := uu 826 (by decide +kernel) rfl
theorem u827 : (Cond.methodLink "SmokeTalkLaw" (41 : Nat) ({ cls := "SmokeTalkModel", name := "cook", desc := "(II)I" } : MethodName)) ∈ UU := uu 827 (by decide +kernel) rfl
theorem u828 : (Cond.instanceMethod ({ cls := "SmokeTalkModel", name := "cook", desc := "(II)I" } : MethodName)) ∈ UU := uu 828 (by decide +kernel) rfl
theorem u829 : (Cond.selects "SmokeTalkModel" ({ cls := "SmokeTalkModel", name := "cook", desc := "(II)I" } : MethodName) ({ cls := "SmokeTalkModel", name := "cook", desc := "(II)I" } : MethodName)) ∈ UU := uu 829 (by decide +kernel) rfl
theorem u830 : (Cond.code ({ cls := "SmokeTalkModel", name := "cook", desc := "(II)I" } : MethodName) prog_9_method_21_code (4 : Nat) (Option.some FieldType.int)) ∈ UU := uu 830 (by decide +kernel) rfl
theorem u831 : (Cond.methodLink "SmokeTalkModel" (124 : Nat) ({ cls := "SmokeTalkModel", name := "canCook", desc := "(II)Z" } : MethodName)) ∈ UU := uu 831 (by decide +kernel) rfl
theorem u833 : (Cond.instanceMethod ({ cls := "SmokeTalkModel", name := "canCook", desc := "(II)Z" } : MethodName)) ∈ UU := uu 833 (by decide +kernel) rfl
theorem u834 : (Cond.code ({ cls := "SmokeTalkModel", name := "canCook", desc := "(II)Z" } : MethodName) prog_9_method_20_code (5 : Nat) (Option.some FieldType.boolean)) ∈ UU := uu 834 (by decide +kernel) rfl
theorem u835 : (Cond.methodLink "SmokeTalkLaw" (45 : Nat) ({ cls := "SmokeTalkModel", name := "undo", desc := "()I" } : MethodName)) ∈ UU := uu 835 (by decide +kernel) rfl
theorem u836 : (Cond.instanceMethod ({ cls := "SmokeTalkModel", name := "undo", desc := "()I" } : MethodName)) ∈ UU := uu 836 (by decide +kernel) rfl
theorem u837 : (Cond.selects "SmokeTalkModel" ({ cls := "SmokeTalkModel", name := "undo", desc := "()I" } : MethodName) ({ cls := "SmokeTalkModel", name := "undo", desc := "()I" } : MethodName)) ∈ UU := uu 837 (by decide +kernel) rfl
theorem u838 : (Cond.code ({ cls := "SmokeTalkModel", name := "undo", desc := "()I" } : MethodName) prog_9_method_22_code (5 : Nat) (Option.some FieldType.int)) ∈ UU := uu 838 (by decide +kernel) rfl
theorem u839 : (Cond.methodLink "SmokeTalkLaw" (50 : Nat) ({ cls := "SmokeTalkModel", name := "gives", desc := "(IIII)I" } : MethodName)) ∈ UU := uu 839 (by decide +kernel) rfl
theorem u840 : (Cond.instanceMethod ({ cls := "SmokeTalkModel", name := "gives", desc := "(IIII)I" } : MethodName)) ∈ UU := uu 840 (by decide +kernel) rfl
theorem u841 : (Cond.selects "SmokeTalkModel" ({ cls := "SmokeTalkModel", name := "gives", desc := "(IIII)I" } : MethodName) ({ cls := "SmokeTalkModel", name := "gives", desc := "(IIII)I" } : MethodName)) ∈ UU := uu 841 (by decide +kernel) rfl
theorem u842 : (Cond.code ({ cls := "SmokeTalkModel", name := "gives", desc := "(IIII)I" } : MethodName) prog_9_method_23_code (5 : Nat) (Option.some FieldType.int)) ∈ UU := uu 842 (by decide +kernel) rfl
theorem u843 : (Cond.methodLink "SmokeTalkLaw" (55 : Nat) ({ cls := "SmokeTalkModel", name := "burns", desc := "(I)I" } : MethodName)) ∈ UU := uu 843 (by decide +kernel) rfl
theorem u844 : (Cond.instanceMethod ({ cls := "SmokeTalkModel", name := "burns", desc := "(I)I" } : MethodName)) ∈ UU := uu 844 (by decide +kernel) rfl
theorem u845 : (Cond.selects "SmokeTalkModel" ({ cls := "SmokeTalkModel", name := "burns", desc := "(I)I" } : MethodName) ({ cls := "SmokeTalkModel", name := "burns", desc := "(I)I" } : MethodName)) ∈ UU := uu 845 (by decide +kernel) rfl
theorem u846 : (Cond.code ({ cls := "SmokeTalkModel", name := "burns", desc := "(I)I" } : MethodName) prog_9_method_24_code (4 : Nat) (Option.some FieldType.int)) ∈ UU := uu 846 (by decide +kernel) rfl
theorem u847 : (Cond.methodLink "SmokeTalkLaw" (59 : Nat) ({ cls := "SmokeTalkModel", name := "plume", desc := "(II)I" } : MethodName)) ∈ UU := uu 847 (by decide +kernel) rfl
theorem u848 : (Cond.instanceMethod ({ cls := "SmokeTalkModel", name := "plume", desc := "(II)I" } : MethodName)) ∈ UU := uu 848 (by decide +kernel) rfl
theorem u849 : (Cond.selects "SmokeTalkModel" ({ cls := "SmokeTalkModel", name := "plume", desc := "(II)I" } : MethodName) ({ cls := "SmokeTalkModel", name := "plume", desc := "(II)I" } : MethodName)) ∈ UU := uu 849 (by decide +kernel) rfl
theorem u850 : (Cond.code ({ cls := "SmokeTalkModel", name := "plume", desc := "(II)I" } : MethodName) prog_9_method_25_code (3 : Nat) (Option.some FieldType.int)) ∈ UU := uu 850 (by decide +kernel) rfl
theorem u851 : (Cond.methodLink "SmokeTalkLaw" (63 : Nat) ({ cls := "SmokeTalkModel", name := "fog", desc := "(I)I" } : MethodName)) ∈ UU := uu 851 (by decide +kernel) rfl
theorem u852 : (Cond.instanceMethod ({ cls := "SmokeTalkModel", name := "fog", desc := "(I)I" } : MethodName)) ∈ UU := uu 852 (by decide +kernel) rfl
theorem u853 : (Cond.selects "SmokeTalkModel" ({ cls := "SmokeTalkModel", name := "fog", desc := "(I)I" } : MethodName) ({ cls := "SmokeTalkModel", name := "fog", desc := "(I)I" } : MethodName)) ∈ UU := uu 853 (by decide +kernel) rfl
theorem u854 : (Cond.code ({ cls := "SmokeTalkModel", name := "fog", desc := "(I)I" } : MethodName) prog_9_method_26_code (3 : Nat) (Option.some FieldType.int)) ∈ UU := uu 854 (by decide +kernel) rfl
theorem u855 : (Cond.methodLink "SmokeTalkLaw" (68 : Nat) ({ cls := "SmokeTalkModel", name := "says", desc := "(IIIII)I" } : MethodName)) ∈ UU := uu 855 (by decide +kernel) rfl
theorem u856 : (Cond.instanceMethod ({ cls := "SmokeTalkModel", name := "says", desc := "(IIIII)I" } : MethodName)) ∈ UU := uu 856 (by decide +kernel) rfl
theorem u857 : (Cond.selects "SmokeTalkModel" ({ cls := "SmokeTalkModel", name := "says", desc := "(IIIII)I" } : MethodName) ({ cls := "SmokeTalkModel", name := "says", desc := "(IIIII)I" } : MethodName)) ∈ UU := uu 857 (by decide +kernel) rfl
theorem u858 : (Cond.code ({ cls := "SmokeTalkModel", name := "says", desc := "(IIIII)I" } : MethodName) prog_9_method_32_code (7 : Nat) (Option.some FieldType.int)) ∈ UU := uu 858 (by decide +kernel) rfl
theorem u859 : (Cond.methodLink "SmokeTalkModel" (134 : Nat) ({ cls := "SmokeTalkModel", name := "areWords", desc := "(III)Z" } : MethodName)) ∈ UU := uu 859 (by decide +kernel) rfl
theorem u860 : (Cond.static ({ cls := "SmokeTalkModel", name := "areWords", desc := "(III)Z" } : MethodName)) ∈ UU := uu 860 (by decide +kernel) rfl
theorem u861 : (Cond.code ({ cls := "SmokeTalkModel", name := "areWords", desc := "(III)Z" } : MethodName) prog_9_method_27_code (3 : Nat) (Option.some FieldType.boolean)) ∈ UU := uu 861 (by decide +kernel) rfl
theorem u862 : (Cond.methodLink "SmokeTalkModel" (137 : Nat) ({ cls := "SmokeTalkModel", name := "ask", desc := "(III)V" } : MethodName)) ∈ UU := uu 862 (by decide +kernel) rfl
theorem u864 : (Cond.instanceMethod ({ cls := "SmokeTalkModel", name := "ask", desc := "(III)V" } : MethodName)) ∈ UU := uu 864 (by decide +kernel) rfl
theorem u865 : (Cond.code ({ cls := "SmokeTalkModel", name := "ask", desc := "(III)V" } : MethodName) prog_9_method_30_code (4 : Nat) (Option.none : Option FieldType)) ∈ UU := uu 865 (by decide +kernel) rfl
theorem u866 : (Cond.methodLink "SmokeTalkModel" (141 : Nat) ({ cls := "SmokeTalkModel", name := "unitsFor", desc := "(II)I" } : MethodName)) ∈ UU := uu 866 (by decide +kernel) rfl
theorem u868 : (Cond.instanceMethod ({ cls := "SmokeTalkModel", name := "unitsFor", desc := "(II)I" } : MethodName)) ∈ UU := uu 868 (by decide +kernel) rfl
theorem u869 : (Cond.code ({ cls := "SmokeTalkModel", name := "unitsFor", desc := "(II)I" } : MethodName) prog_9_method_31_code (7 : Nat) (Option.some FieldType.int)) ∈ UU := uu 869 (by decide +kernel) rfl
theorem u870 : (Cond.methodLink "SmokeTalkModel" (128 : Nat) ({ cls := "SmokeTalkModel", name := "isRow", desc := "(II)Z" } : MethodName)) ∈ UU := uu 870 (by decide +kernel) rfl
theorem u872 : (Cond.instanceMethod ({ cls := "SmokeTalkModel", name := "isRow", desc := "(II)Z" } : MethodName)) ∈ UU := uu 872 (by decide +kernel) rfl
theorem u873 : (Cond.code ({ cls := "SmokeTalkModel", name := "isRow", desc := "(II)Z" } : MethodName) prog_9_method_29_code (6 : Nat) (Option.some FieldType.boolean)) ∈ UU := uu 873 (by decide +kernel) rfl
theorem u874 : (Cond.methodLink "SmokeTalkModel" (131 : Nat) ({ cls := "SmokeTalkModel", name := "hasAll", desc := "(I)Z" } : MethodName)) ∈ UU := uu 874 (by decide +kernel) rfl
theorem u876 : (Cond.instanceMethod ({ cls := "SmokeTalkModel", name := "hasAll", desc := "(I)Z" } : MethodName)) ∈ UU := uu 876 (by decide +kernel) rfl
theorem u877 : (Cond.code ({ cls := "SmokeTalkModel", name := "hasAll", desc := "(I)Z" } : MethodName) prog_9_method_28_code (6 : Nat) (Option.some FieldType.boolean)) ∈ UU := uu 877 (by decide +kernel) rfl
theorem u878 : (Cond.methodLink "SmokeTalkLaw" (72 : Nat) ({ cls := "SmokeTalkModel", name := "nearest", desc := "(IIII)I" } : MethodName)) ∈ UU := uu 878 (by decide +kernel) rfl
theorem u879 : (Cond.instanceMethod ({ cls := "SmokeTalkModel", name := "nearest", desc := "(IIII)I" } : MethodName)) ∈ UU := uu 879 (by decide +kernel) rfl
theorem u880 : (Cond.selects "SmokeTalkModel" ({ cls := "SmokeTalkModel", name := "nearest", desc := "(IIII)I" } : MethodName) ({ cls := "SmokeTalkModel", name := "nearest", desc := "(IIII)I" } : MethodName)) ∈ UU := uu 880 (by decide +kernel) rfl
theorem u881 : (Cond.code ({ cls := "SmokeTalkModel", name := "nearest", desc := "(IIII)I" } : MethodName) prog_9_method_34_code (8 : Nat) (Option.some FieldType.int)) ∈ UU := uu 881 (by decide +kernel) rfl
theorem u882 : (Cond.methodLink "SmokeTalkModel" (145 : Nat) ({ cls := "SmokeTalkModel", name := "bitsIn", desc := "(I)I" } : MethodName)) ∈ UU := uu 882 (by decide +kernel) rfl
theorem u883 : (Cond.static ({ cls := "SmokeTalkModel", name := "bitsIn", desc := "(I)I" } : MethodName)) ∈ UU := uu 883 (by decide +kernel) rfl
theorem u884 : (Cond.code ({ cls := "SmokeTalkModel", name := "bitsIn", desc := "(I)I" } : MethodName) prog_9_method_33_code (3 : Nat) (Option.some FieldType.int)) ∈ UU := uu 884 (by decide +kernel) rfl
theorem u885 : (Cond.methodLink "SmokeTalkLaw" (76 : Nat) ({ cls := "SmokeTalkModel", name := "reads", desc := "(II)I" } : MethodName)) ∈ UU := uu 885 (by decide +kernel) rfl
theorem u886 : (Cond.instanceMethod ({ cls := "SmokeTalkModel", name := "reads", desc := "(II)I" } : MethodName)) ∈ UU := uu 886 (by decide +kernel) rfl
theorem u887 : (Cond.selects "SmokeTalkModel" ({ cls := "SmokeTalkModel", name := "reads", desc := "(II)I" } : MethodName) ({ cls := "SmokeTalkModel", name := "reads", desc := "(II)I" } : MethodName)) ∈ UU := uu 887 (by decide +kernel) rfl
theorem u888 : (Cond.code ({ cls := "SmokeTalkModel", name := "reads", desc := "(II)I" } : MethodName) prog_9_method_36_code (3 : Nat) (Option.some FieldType.int)) ∈ UU := uu 888 (by decide +kernel) rfl
theorem u889 : (Cond.methodLink "SmokeTalkModel" (148 : Nat) ({ cls := "SmokeTalkModel", name := "isSmoke", desc := "(I)Z" } : MethodName)) ∈ UU := uu 889 (by decide +kernel) rfl
theorem u890 : (Cond.static ({ cls := "SmokeTalkModel", name := "isSmoke", desc := "(I)Z" } : MethodName)) ∈ UU := uu 890 (by decide +kernel) rfl
theorem u891 : (Cond.code ({ cls := "SmokeTalkModel", name := "isSmoke", desc := "(I)Z" } : MethodName) prog_9_method_15_code (1 : Nat) (Option.some FieldType.boolean)) ∈ UU := uu 891 (by decide +kernel) rfl
theorem u892 : (Cond.methodLink "SmokeTalkModel" (151 : Nat) ({ cls := "SmokeTalkModel", name := "readAs", desc := "(II)I" } : MethodName)) ∈ UU := uu 892 (by decide +kernel) rfl
theorem u894 : (Cond.instanceMethod ({ cls := "SmokeTalkModel", name := "readAs", desc := "(II)I" } : MethodName)) ∈ UU := uu 894 (by decide +kernel) rfl
theorem u895 : (Cond.code ({ cls := "SmokeTalkModel", name := "readAs", desc := "(II)I" } : MethodName) prog_9_method_35_code (5 : Nat) (Option.some FieldType.int)) ∈ UU := uu 895 (by decide +kernel) rfl
theorem u896 : (Cond.methodLink "SmokeTalkLaw" (80 : Nat) ({ cls := "SmokeTalkModel", name := "means", desc := "(I)I" } : MethodName)) ∈ UU := uu 896 (by decide +kernel) rfl
theorem u897 : (Cond.instanceMethod ({ cls := "SmokeTalkModel", name := "means", desc := "(I)I" } : MethodName)) ∈ UU := uu 897 (by decide +kernel) rfl
theorem u898 : (Cond.selects "SmokeTalkModel" ({ cls := "SmokeTalkModel", name := "means", desc := "(I)I" } : MethodName) ({ cls := "SmokeTalkModel", name := "means", desc := "(I)I" } : MethodName)) ∈ UU := uu 898 (by decide +kernel) rfl
theorem u899 : (Cond.code ({ cls := "SmokeTalkModel", name := "means", desc := "(I)I" } : MethodName) prog_9_method_38_code (2 : Nat) (Option.some FieldType.int)) ∈ UU := uu 899 (by decide +kernel) rfl
theorem u900 : (Cond.methodLink "SmokeTalkModel" (154 : Nat) ({ cls := "SmokeTalkModel", name := "meant", desc := "(I)I" } : MethodName)) ∈ UU := uu 900 (by decide +kernel) rfl
theorem u902 : (Cond.instanceMethod ({ cls := "SmokeTalkModel", name := "meant", desc := "(I)I" } : MethodName)) ∈ UU := uu 902 (by decide +kernel) rfl
theorem u903 : (Cond.code ({ cls := "SmokeTalkModel", name := "meant", desc := "(I)I" } : MethodName) prog_9_method_37_code (3 : Nat) (Option.some FieldType.int)) ∈ UU := uu 903 (by decide +kernel) rfl
theorem u904 : (Cond.methodLink "SmokeTalkLaw" (85 : Nat) ({ cls := "SmokeTalkModel", name := "chain", desc := "(III)J" } : MethodName)) ∈ UU := uu 904 (by decide +kernel) rfl
theorem u905 : (Cond.instanceMethod ({ cls := "SmokeTalkModel", name := "chain", desc := "(III)J" } : MethodName)) ∈ UU := uu 905 (by decide +kernel) rfl
theorem u906 : (Cond.selects "SmokeTalkModel" ({ cls := "SmokeTalkModel", name := "chain", desc := "(III)J" } : MethodName) ({ cls := "SmokeTalkModel", name := "chain", desc := "(III)J" } : MethodName)) ∈ UU := uu 906 (by decide +kernel) rfl
theorem u907 : (Cond.code ({ cls := "SmokeTalkModel", name := "chain", desc := "(III)J" } : MethodName) prog_9_method_41_code (10 : Nat) (Option.some FieldType.long)) ∈ UU := uu 907 (by decide +kernel) rfl
theorem u908 : (Cond.constantLong "SmokeTalkModel" (157 : Nat) (-1 : Int64)) ∈ UU := uu 908 (by decide +kernel) rfl
theorem u909 : (Cond.methodLink "SmokeTalkModel" (159 : Nat) ({ cls := "SmokeTalkModel", name := "leastOf", desc := "(I)I" } : MethodName)) ∈ UU := uu 909 (by decide +kernel) rfl
theorem u911 : (Cond.instanceMethod ({ cls := "SmokeTalkModel", name := "leastOf", desc := "(I)I" } : MethodName)) ∈ UU := uu 911 (by decide +kernel) rfl
theorem u912 : (Cond.code ({ cls := "SmokeTalkModel", name := "leastOf", desc := "(I)I" } : MethodName) prog_9_method_39_code (3 : Nat) (Option.some FieldType.int)) ∈ UU := uu 912 (by decide +kernel) rfl
theorem u913 : (Cond.constantLong "SmokeTalkModel" (162 : Nat) (1000 : Int64)) ∈ UU := uu 913 (by decide +kernel) rfl
theorem u914 : (Cond.methodLink "SmokeTalkModel" (164 : Nat) ({ cls := "SmokeTalkModel", name := "common", desc := "(JJ)J" } : MethodName)) ∈ UU := uu 914 (by decide +kernel) rfl
theorem u915 : (Cond.static ({ cls := "SmokeTalkModel", name := "common", desc := "(JJ)J" } : MethodName)) ∈ UU := uu 915 (by decide +kernel) rfl
theorem u916 : (Cond.code ({ cls := "SmokeTalkModel", name := "common", desc := "(JJ)J" } : MethodName) prog_9_method_40_code (10 : Nat) (Option.some FieldType.long)) ∈ UU := uu 916 (by decide +kernel) rfl
theorem u917 : (Cond.methodLink "SmokeTalkLaw" (90 : Nat) ({ cls := "SmokeTalkModel", name := "who", desc := "(III)I" } : MethodName)) ∈ UU := uu 917 (by decide +kernel) rfl
theorem u918 : (Cond.instanceMethod ({ cls := "SmokeTalkModel", name := "who", desc := "(III)I" } : MethodName)) ∈ UU := uu 918 (by decide +kernel) rfl
theorem u919 : (Cond.selects "SmokeTalkModel" ({ cls := "SmokeTalkModel", name := "who", desc := "(III)I" } : MethodName) ({ cls := "SmokeTalkModel", name := "who", desc := "(III)I" } : MethodName)) ∈ UU := uu 919 (by decide +kernel) rfl
theorem u920 : (Cond.code ({ cls := "SmokeTalkModel", name := "who", desc := "(III)I" } : MethodName) prog_9_method_42_code (9 : Nat) (Option.some FieldType.int)) ∈ UU := uu 920 (by decide +kernel) rfl
theorem u921 : (Cond.methodLink "SmokeTalkLaw" (94 : Nat) ({ cls := "SmokeTalkModel", name := "days", desc := "(I)I" } : MethodName)) ∈ UU := uu 921 (by decide +kernel) rfl
theorem u922 : (Cond.instanceMethod ({ cls := "SmokeTalkModel", name := "days", desc := "(I)I" } : MethodName)) ∈ UU := uu 922 (by decide +kernel) rfl
theorem u923 : (Cond.selects "SmokeTalkModel" ({ cls := "SmokeTalkModel", name := "days", desc := "(I)I" } : MethodName) ({ cls := "SmokeTalkModel", name := "days", desc := "(I)I" } : MethodName)) ∈ UU := uu 923 (by decide +kernel) rfl
theorem u924 : (Cond.code ({ cls := "SmokeTalkModel", name := "days", desc := "(I)I" } : MethodName) prog_9_method_44_code (5 : Nat) (Option.some FieldType.int)) ∈ UU := uu 924 (by decide +kernel) rfl
theorem u925 : (Cond.methodLink "SmokeTalkModel" (168 : Nat) ({ cls := "SmokeTalkModel", name := "nextSupper", desc := "()I" } : MethodName)) ∈ UU := uu 925 (by decide +kernel) rfl
theorem u927 : (Cond.instanceMethod ({ cls := "SmokeTalkModel", name := "nextSupper", desc := "()I" } : MethodName)) ∈ UU := uu 927 (by decide +kernel) rfl
theorem u928 : (Cond.code ({ cls := "SmokeTalkModel", name := "nextSupper", desc := "()I" } : MethodName) prog_9_method_43_code (5 : Nat) (Option.some FieldType.int)) ∈ UU := uu 928 (by decide +kernel) rfl
theorem u929 : (Cond.methodLink "SmokeTalkLaw" (98 : Nat) ({ cls := "SmokeTalkModel", name := "code", desc := "(III)I" } : MethodName)) ∈ UU := uu 929 (by decide +kernel) rfl
theorem u930 : (Cond.instanceMethod ({ cls := "SmokeTalkModel", name := "code", desc := "(III)I" } : MethodName)) ∈ UU := uu 930 (by decide +kernel) rfl
theorem u931 : (Cond.selects "SmokeTalkModel" ({ cls := "SmokeTalkModel", name := "code", desc := "(III)I" } : MethodName) ({ cls := "SmokeTalkModel", name := "code", desc := "(III)I" } : MethodName)) ∈ UU := uu 931 (by decide +kernel) rfl
theorem u932 : (Cond.code ({ cls := "SmokeTalkModel", name := "code", desc := "(III)I" } : MethodName) prog_9_method_46_code (8 : Nat) (Option.some FieldType.int)) ∈ UU := uu 932 (by decide +kernel) rfl
theorem u933 : (Cond.methodLink "SmokeTalkModel" (171 : Nat) ({ cls := "SmokeTalkModel", name := "saidBy", desc := "(III)I" } : MethodName)) ∈ UU := uu 933 (by decide +kernel) rfl
theorem u935 : (Cond.instanceMethod ({ cls := "SmokeTalkModel", name := "saidBy", desc := "(III)I" } : MethodName)) ∈ UU := uu 935 (by decide +kernel) rfl
theorem u936 : (Cond.code ({ cls := "SmokeTalkModel", name := "saidBy", desc := "(III)I" } : MethodName) prog_9_method_45_code (7 : Nat) (Option.some FieldType.int)) ∈ UU := uu 936 (by decide +kernel) rfl
theorem u937 : (Cond.methodLink "SmokeTalkLaw" (102 : Nat) ({ cls := "SmokeTalkModel", name := "feast", desc := "(II)I" } : MethodName)) ∈ UU := uu 937 (by decide +kernel) rfl
theorem u938 : (Cond.instanceMethod ({ cls := "SmokeTalkModel", name := "feast", desc := "(II)I" } : MethodName)) ∈ UU := uu 938 (by decide +kernel) rfl
theorem u939 : (Cond.selects "SmokeTalkModel" ({ cls := "SmokeTalkModel", name := "feast", desc := "(II)I" } : MethodName) ({ cls := "SmokeTalkModel", name := "feast", desc := "(II)I" } : MethodName)) ∈ UU := uu 939 (by decide +kernel) rfl
theorem u940 : (Cond.code ({ cls := "SmokeTalkModel", name := "feast", desc := "(II)I" } : MethodName) prog_9_method_47_code (7 : Nat) (Option.some FieldType.int)) ∈ UU := uu 940 (by decide +kernel) rfl
theorem u941 : (Cond.methodLink "SmokeTalkLaw" (106 : Nat) ({ cls := "SmokeTalkModel", name := "silent", desc := "(I)I" } : MethodName)) ∈ UU := uu 941 (by decide +kernel) rfl
theorem u942 : (Cond.instanceMethod ({ cls := "SmokeTalkModel", name := "silent", desc := "(I)I" } : MethodName)) ∈ UU := uu 942 (by decide +kernel) rfl
theorem u943 : (Cond.selects "SmokeTalkModel" ({ cls := "SmokeTalkModel", name := "silent", desc := "(I)I" } : MethodName) ({ cls := "SmokeTalkModel", name := "silent", desc := "(I)I" } : MethodName)) ∈ UU := uu 943 (by decide +kernel) rfl
theorem u944 : (Cond.code ({ cls := "SmokeTalkModel", name := "silent", desc := "(I)I" } : MethodName) prog_9_method_48_code (4 : Nat) (Option.some FieldType.int)) ∈ UU := uu 944 (by decide +kernel) rfl
theorem u945 : (Cond.methodLink "SmokeTalkLaw" (110 : Nat) ({ cls := "SmokeTalkModel", name := "drawn", desc := "(I)I" } : MethodName)) ∈ UU := uu 945 (by decide +kernel) rfl
theorem u946 : (Cond.instanceMethod ({ cls := "SmokeTalkModel", name := "drawn", desc := "(I)I" } : MethodName)) ∈ UU := uu 946 (by decide +kernel) rfl
theorem u947 : (Cond.selects "SmokeTalkModel" ({ cls := "SmokeTalkModel", name := "drawn", desc := "(I)I" } : MethodName) ({ cls := "SmokeTalkModel", name := "drawn", desc := "(I)I" } : MethodName)) ∈ UU := uu 947 (by decide +kernel) rfl
theorem u948 : (Cond.code ({ cls := "SmokeTalkModel", name := "drawn", desc := "(I)I" } : MethodName) prog_9_method_49_code (4 : Nat) (Option.some FieldType.int)) ∈ UU := uu 948 (by decide +kernel) rfl
theorem u949 : (Cond.constant "SmokeTalkModel" (175 : Nat) (1103515245 : Int32)) ∈ UU := uu 949 (by decide +kernel) rfl
theorem u950 : (Cond.methodLink "SmokeTalkLaw" (114 : Nat) ({ cls := "SmokeTalkModel", name := "lot", desc := "(I)I" } : MethodName)) ∈ UU := uu 950 (by decide +kernel) rfl
theorem u951 : (Cond.instanceMethod ({ cls := "SmokeTalkModel", name := "lot", desc := "(I)I" } : MethodName)) ∈ UU := uu 951 (by decide +kernel) rfl
theorem u952 : (Cond.selects "SmokeTalkModel" ({ cls := "SmokeTalkModel", name := "lot", desc := "(I)I" } : MethodName) ({ cls := "SmokeTalkModel", name := "lot", desc := "(I)I" } : MethodName)) ∈ UU := uu 952 (by decide +kernel) rfl
theorem u953 : (Cond.code ({ cls := "SmokeTalkModel", name := "lot", desc := "(I)I" } : MethodName) prog_9_method_50_code (3 : Nat) (Option.some FieldType.int)) ∈ UU := uu 953 (by decide +kernel) rfl
theorem u954 : (Cond.methodLink "SmokeTalkLaw" (118 : Nat) ({ cls := "SmokeTalkModel", name := "mark", desc := "(II)I" } : MethodName)) ∈ UU := uu 954 (by decide +kernel) rfl
theorem u955 : (Cond.instanceMethod ({ cls := "SmokeTalkModel", name := "mark", desc := "(II)I" } : MethodName)) ∈ UU := uu 955 (by decide +kernel) rfl
theorem u956 : (Cond.selects "SmokeTalkModel" ({ cls := "SmokeTalkModel", name := "mark", desc := "(II)I" } : MethodName) ({ cls := "SmokeTalkModel", name := "mark", desc := "(II)I" } : MethodName)) ∈ UU := uu 956 (by decide +kernel) rfl
theorem u957 : (Cond.code ({ cls := "SmokeTalkModel", name := "mark", desc := "(II)I" } : MethodName) prog_9_method_51_code (4 : Nat) (Option.some FieldType.int)) ∈ UU := uu 957 (by decide +kernel) rfl
theorem u958 : (Cond.constant "SmokeTalkModel" (176 : Nat) (-1000000 : Int32)) ∈ UU := uu 958 (by decide +kernel) rfl
theorem u959 : (Cond.constantLong "SmokeTalkModel" (181 : Nat) (11 : Int64)) ∈ UU := uu 959 (by decide +kernel) rfl
theorem u960 : (Cond.constantLong "SmokeTalkModel" (183 : Nat) (101 : Int64)) ∈ UU := uu 960 (by decide +kernel) rfl
theorem u961 : (Cond.constantLong "SmokeTalkModel" (185 : Nat) (1011 : Int64)) ∈ UU := uu 961 (by decide +kernel) rfl
theorem u962 : (Cond.constantLong "SmokeTalkModel" (187 : Nat) (10101 : Int64)) ∈ UU := uu 962 (by decide +kernel) rfl
theorem u963 : (Cond.constantLong "SmokeTalkModel" (189 : Nat) (100001 : Int64)) ∈ UU := uu 963 (by decide +kernel) rfl
theorem u964 : (Cond.methodLink "SmokeTalkLaw" (122 : Nat) ({ cls := "SmokeTalkModel", name := "keep", desc := "(I)I" } : MethodName)) ∈ UU := uu 964 (by decide +kernel) rfl
theorem u965 : (Cond.instanceMethod ({ cls := "SmokeTalkModel", name := "keep", desc := "(I)I" } : MethodName)) ∈ UU := uu 965 (by decide +kernel) rfl
theorem u966 : (Cond.selects "SmokeTalkModel" ({ cls := "SmokeTalkModel", name := "keep", desc := "(I)I" } : MethodName) ({ cls := "SmokeTalkModel", name := "keep", desc := "(I)I" } : MethodName)) ∈ UU := uu 966 (by decide +kernel) rfl
theorem u967 : (Cond.code ({ cls := "SmokeTalkModel", name := "keep", desc := "(I)I" } : MethodName) prog_9_method_53_code (2 : Nat) (Option.some FieldType.int)) ∈ UU := uu 967 (by decide +kernel) rfl
theorem u968 : (Cond.methodLink "SmokeTalkModel" (191 : Nat) ({ cls := "SmokeTalkModel", name := "copy", desc := "(II)V" } : MethodName)) ∈ UU := uu 968 (by decide +kernel) rfl
theorem u970 : (Cond.instanceMethod ({ cls := "SmokeTalkModel", name := "copy", desc := "(II)V" } : MethodName)) ∈ UU := uu 970 (by decide +kernel) rfl
theorem u971 : (Cond.code ({ cls := "SmokeTalkModel", name := "copy", desc := "(II)V" } : MethodName) prog_9_method_52_code (4 : Nat) (Option.none : Option FieldType)) ∈ UU := uu 971 (by decide +kernel) rfl
theorem u972 : (Cond.methodLink "SmokeTalkLaw" (126 : Nat) ({ cls := "SmokeTalkModel", name := "back", desc := "(I)I" } : MethodName)) ∈ UU := uu 972 (by decide +kernel) rfl
theorem u973 : (Cond.instanceMethod ({ cls := "SmokeTalkModel", name := "back", desc := "(I)I" } : MethodName)) ∈ UU := uu 973 (by decide +kernel) rfl
theorem u974 : (Cond.selects "SmokeTalkModel" ({ cls := "SmokeTalkModel", name := "back", desc := "(I)I" } : MethodName) ({ cls := "SmokeTalkModel", name := "back", desc := "(I)I" } : MethodName)) ∈ UU := uu 974 (by decide +kernel) rfl
theorem u975 : (Cond.code ({ cls := "SmokeTalkModel", name := "back", desc := "(I)I" } : MethodName) prog_9_method_54_code (2 : Nat) (Option.some FieldType.int)) ∈ UU := uu 975 (by decide +kernel) rfl
theorem u976 : (Cond.methodLink "SmokeTalkLaw" (130 : Nat) ({ cls := "SmokeTalkModel", name := "count", desc := "(I)I" } : MethodName)) ∈ UU := uu 976 (by decide +kernel) rfl
theorem u977 : (Cond.instanceMethod ({ cls := "SmokeTalkModel", name := "count", desc := "(I)I" } : MethodName)) ∈ UU := uu 977 (by decide +kernel) rfl
theorem u978 : (Cond.selects "SmokeTalkModel" ({ cls := "SmokeTalkModel", name := "count", desc := "(I)I" } : MethodName) ({ cls := "SmokeTalkModel", name := "count", desc := "(I)I" } : MethodName)) ∈ UU := uu 978 (by decide +kernel) rfl
theorem u979 : (Cond.code ({ cls := "SmokeTalkModel", name := "count", desc := "(I)I" } : MethodName) prog_9_method_55_code (2 : Nat) (Option.some FieldType.int)) ∈ UU := uu 979 (by decide +kernel) rfl
theorem u980 : (Cond.methodLink "SmokeTalkLaw" (135 : Nat) ({ cls := "SmokeTalkModel", name := "trace", desc := "()J" } : MethodName)) ∈ UU := uu 980 (by decide +kernel) rfl
theorem u981 : (Cond.instanceMethod ({ cls := "SmokeTalkModel", name := "trace", desc := "()J" } : MethodName)) ∈ UU := uu 981 (by decide +kernel) rfl
theorem u982 : (Cond.selects "SmokeTalkModel" ({ cls := "SmokeTalkModel", name := "trace", desc := "()J" } : MethodName) ({ cls := "SmokeTalkModel", name := "trace", desc := "()J" } : MethodName)) ∈ UU := uu 982 (by decide +kernel) rfl
theorem u983 : (Cond.code ({ cls := "SmokeTalkModel", name := "trace", desc := "()J" } : MethodName) prog_9_method_56_code (1 : Nat) (Option.some FieldType.long)) ∈ UU := uu 983 (by decide +kernel) rfl
theorem u984 : (Cond.constantLong "SmokeTalkLaw" (13 : Nat) (4294967295 : Int64)) ∈ UU := uu 984 (by decide +kernel) rfl
theorem u985 : (Cond.fieldLink "java/lang/String" (9 : Nat) "java/lang/String" "value" "[B") ∈ UU := uu 985 (by decide +kernel) rfl
theorem u986 : (Cond.fieldLink "java/lang/String" (15 : Nat) "java/lang/String" "coder" "B") ∈ UU := uu 986 (by decide +kernel) rfl
theorem inX0 : ∀ w ∈ u_ws RX0 TX0 2, w ∈ UU := fun w h => by
  have h1 : u_ws RX0 TX0 2 = [224, 226].filterMap (fun i => lw_tbl[i]?) := by decide +kernel
  have h2 : (u_ws RX0 TX0 2).all goodWord = true := by decide +kernel
  have h3 := List.all_eq_true.mp h2 w h
  rw [h1] at h
  obtain ⟨i, -, hi⟩ := List.mem_filterMap.mp h
  exact uu i hi h3
theorem inX1 : ∀ w ∈ u_ws RX1 TX1 5, w ∈ UU := fun w h => by
  have h1 : u_ws RX1 TX1 5 = [116, 118, 120, 122, 124].filterMap (fun i => lw_tbl[i]?) := by decide +kernel
  have h2 : (u_ws RX1 TX1 5).all goodWord = true := by decide +kernel
  have h3 := List.all_eq_true.mp h2 w h
  rw [h1] at h
  obtain ⟨i, -, hi⟩ := List.mem_filterMap.mp h
  exact uu i hi h3
theorem inX2 : ∀ w ∈ u_ws RX2 TX2 6, w ∈ UU := fun w h => by
  have h1 : u_ws RX2 TX2 6 = [202, 204, 206, 208, 210, 212].filterMap (fun i => lw_tbl[i]?) := by decide +kernel
  have h2 : (u_ws RX2 TX2 6).all goodWord = true := by decide +kernel
  have h3 := List.all_eq_true.mp h2 w h
  rw [h1] at h
  obtain ⟨i, -, hi⟩ := List.mem_filterMap.mp h
  exact uu i hi h3
theorem inX3 : ∀ w ∈ u_ws RX3 TX3 8, w ∈ UU := fun w h => by
  have h1 : u_ws RX3 TX3 8 = [151, 153, 155, 157, 159, 161, 163, 165].filterMap (fun i => lw_tbl[i]?) := by decide +kernel
  have h2 : (u_ws RX3 TX3 8).all goodWord = true := by decide +kernel
  have h3 := List.all_eq_true.mp h2 w h
  rw [h1] at h
  obtain ⟨i, -, hi⟩ := List.mem_filterMap.mp h
  exact uu i hi h3
theorem inX4 : ∀ w ∈ u_ws RX4 TX4 4, w ∈ UU := fun w h => by
  have h1 : u_ws RX4 TX4 4 = [174, 176, 178, 180].filterMap (fun i => lw_tbl[i]?) := by decide +kernel
  have h2 : (u_ws RX4 TX4 4).all goodWord = true := by decide +kernel
  have h3 := List.all_eq_true.mp h2 w h
  rw [h1] at h
  obtain ⟨i, -, hi⟩ := List.mem_filterMap.mp h
  exact uu i hi h3
theorem inX5 : ∀ w ∈ u_ws RX5 TX5 6, w ∈ UU := fun w h => by
  have h1 : u_ws RX5 TX5 6 = [76, 78, 80, 82, 84, 86].filterMap (fun i => lw_tbl[i]?) := by decide +kernel
  have h2 : (u_ws RX5 TX5 6).all goodWord = true := by decide +kernel
  have h3 := List.all_eq_true.mp h2 w h
  rw [h1] at h
  obtain ⟨i, -, hi⟩ := List.mem_filterMap.mp h
  exact uu i hi h3
theorem inX6 : ∀ w ∈ u_ws RX6 TX6 10, w ∈ UU := fun w h => by
  have h1 : u_ws RX6 TX6 10 = [240, 242, 244, 246, 248, 250, 252, 254, 256, 258].filterMap (fun i => lw_tbl[i]?) := by decide +kernel
  have h2 : (u_ws RX6 TX6 10).all goodWord = true := by decide +kernel
  have h3 := List.all_eq_true.mp h2 w h
  rw [h1] at h
  obtain ⟨i, -, hi⟩ := List.mem_filterMap.mp h
  exact uu i hi h3
theorem inX7 : ∀ w ∈ u_ws RX7 TX7 24, w ∈ UU := fun w h => by
  have h1 : u_ws RX7 TX7 24 = [714, 716, 718, 720, 722, 724, 726, 728, 730, 732, 734, 736, 738, 740, 742, 744, 746, 748, 750, 752, 754, 756, 758, 760].filterMap (fun i => lw_tbl[i]?) := by decide +kernel
  have h2 : (u_ws RX7 TX7 24).all goodWord = true := by decide +kernel
  have h3 := List.all_eq_true.mp h2 w h
  rw [h1] at h
  obtain ⟨i, -, hi⟩ := List.mem_filterMap.mp h
  exact uu i hi h3
