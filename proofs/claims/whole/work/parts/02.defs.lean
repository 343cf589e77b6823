/-! words, classes, methods: by program (gen_names.py) -/
def aTs : List Cond := lw_tbl.filter goodWord
theorem aTs_good : ∀ w ∈ aTs, w ∈ aTs ∧ ((w.onTables && w.keeps) = true ∨ ∃ ty, w = .arrayClass ty) := fun w h => ⟨h, good_of_word (List.mem_filter.mp h).2⟩
theorem mts (i : Nat) {w : Cond} (h : tables_1[i]? = some w) (hg : goodWord w = true) : w ∈ aTs := List.mem_filter.mpr ⟨List.mem_append_right _ (List.mem_of_getElem? h), hg⟩
theorem mtp (i : Nat) {w : Cond} (h : (k2_sels lw_privs)[i]? = some w) (hg : goodWord w = true) : w ∈ aTs := List.mem_filter.mpr ⟨List.mem_append_left _ (List.mem_of_getElem? h), hg⟩
theorem mt1 (i : Nat) {w : Cond} (h : tables_1_1[i]? = some w) (hg : goodWord w = true) : w ∈ aTs := by
  have h := List.mem_of_getElem? h
  exact List.mem_filter.mpr ⟨List.mem_append_right _ (List.mem_append_left _ h), hg⟩
theorem mt2 (i : Nat) {w : Cond} (h : tables_1_2[i]? = some w) (hg : goodWord w = true) : w ∈ aTs := by
  have h := List.mem_of_getElem? h
  exact List.mem_filter.mpr ⟨List.mem_append_right _ (List.mem_append_right _ (List.mem_append_left _ h)), hg⟩
theorem mt3 (i : Nat) {w : Cond} (h : tables_1_3[i]? = some w) (hg : goodWord w = true) : w ∈ aTs := by
  have h := List.mem_of_getElem? h
  exact List.mem_filter.mpr ⟨List.mem_append_right _ (List.mem_append_right _ (List.mem_append_right _ (List.mem_append_left _ h))), hg⟩
theorem mt4 (i : Nat) {w : Cond} (h : tables_1_4[i]? = some w) (hg : goodWord w = true) : w ∈ aTs := by
  have h := List.mem_of_getElem? h
  exact List.mem_filter.mpr ⟨List.mem_append_right _ (List.mem_append_right _ (List.mem_append_right _ (List.mem_append_right _ (List.mem_append_left _ h)))), hg⟩
theorem mt5 (i : Nat) {w : Cond} (h : tables_1_5[i]? = some w) (hg : goodWord w = true) : w ∈ aTs := by
  have h := List.mem_of_getElem? h
  exact List.mem_filter.mpr ⟨List.mem_append_right _ (List.mem_append_right _ (List.mem_append_right _ (List.mem_append_right _ (List.mem_append_right _ (List.mem_append_left _ h))))), hg⟩
theorem mt6 (i : Nat) {w : Cond} (h : tables_1_6[i]? = some w) (hg : goodWord w = true) : w ∈ aTs := by
  have h := List.mem_of_getElem? h
  exact List.mem_filter.mpr ⟨List.mem_append_right _ (List.mem_append_right _ (List.mem_append_right _ (List.mem_append_right _ (List.mem_append_right _ (List.mem_append_right _ (h)))))), hg⟩
def aTy : List FieldType := [.int, .long, .boolean]
def T_B : u_T := fun k => match k with
  | 0 => ("PolicyText$Bytes", "words", "[J", true)
  | 1 => ("PolicyText$Bytes", "room", "I", true)
  | _ => ("PolicyText$Bytes", "length", "I", false)
def ty_B : Nat → FieldType := fun k => match k with
  | 0 => (.array .long)
  | 1 => .int
  | _ => .int
def T_C : u_T := fun k => match k with
  | 0 => ("PolicyText$Call", "number", "I", false)
  | 1 => ("PolicyText$Call", "first", "I", false)
  | 2 => ("PolicyText$Call", "second", "I", false)
  | _ => ("PolicyText$Call", "third", "I", false)
def ty_C : Nat → FieldType := fun k => match k with
  | 0 => .int
  | 1 => .int
  | 2 => .int
  | _ => .int
def T_P : u_T := fun k => match k with
  | 0 => ("PolicyText$Policy", "counters", "I", false)
  | 1 => ("PolicyText$Policy", "nodes", "I", false)
  | 2 => ("PolicyText$Policy", "tests", "I", false)
  | 3 => ("PolicyText$Policy", "names", "[J", true)
  | 4 => ("PolicyText$Policy", "clauseCounts", "[I", true)
  | 5 => ("PolicyText$Policy", "tops", "[I", true)
  | 6 => ("PolicyText$Policy", "stands", "[I", true)
  | 7 => ("PolicyText$Policy", "later", "[I", true)
  | 8 => ("PolicyText$Policy", "calls", "[I", true)
  | 9 => ("PolicyText$Policy", "goals", "[I", true)
  | 10 => ("PolicyText$Policy", "testCounts", "[I", true)
  | 11 => ("PolicyText$Policy", "shapes", "[I", true)
  | _ => ("PolicyText$Policy", "bounds", "[I", true)
def ty_P : Nat → FieldType := fun k => match k with
  | 0 => .int
  | 1 => .int
  | 2 => .int
  | 3 => (.array .long)
  | 4 => (.array .int)
  | 5 => (.array .int)
  | 6 => (.array .int)
  | 7 => (.array .int)
  | 8 => (.array .int)
  | 9 => (.array .int)
  | 10 => (.array .int)
  | 11 => (.array .int)
  | _ => (.array .int)
def T_W : u_T := fun k => match k with
  | 0 => ("PolicyText$Printer", "policy", "LPolicyText$Policy;", true)
  | 1 => ("PolicyText$Printer", "out", "LPolicyText$Bytes;", true)
  | _ => ("PolicyText$Printer", "fits", "Z", false)
def ty_W : Nat → FieldType := fun k => match k with
  | 0 => (.object "PolicyText$Policy")
  | 1 => (.object "PolicyText$Bytes")
  | _ => .boolean
def T_R : u_T := fun k => match k with
  | 0 => ("PolicyText$Reader", "tokens", "LPolicyText$Tokens;", true)
  | 1 => ("PolicyText$Reader", "testPlaces", "[I", true)
  | 2 => ("PolicyText$Reader", "goalPlaces", "[I", true)
  | 3 => ("PolicyText$Reader", "policy", "LPolicyText$Policy;", false)
  | 4 => ("PolicyText$Reader", "fault", "I", false)
  | 5 => ("PolicyText$Reader", "place", "I", false)
  | 6 => ("PolicyText$Reader", "ways", "Z", false)
  | 7 => ("PolicyText$Reader", "clause", "I", false)
  | 8 => ("PolicyText$Reader", "goal", "I", false)
  | 9 => ("PolicyText$Reader", "nots", "I", false)
  | 10 => ("PolicyText$Reader", "closes", "I", false)
  | 11 => ("PolicyText$Reader", "counted", "Z", false)
  | 12 => ("PolicyText$Reader", "which", "I", false)
  | 13 => ("PolicyText$Reader", "whichPlace", "I", false)
  | _ => ("PolicyText$Reader", "op", "I", false)
def ty_R : Nat → FieldType := fun k => match k with
  | 0 => (.object "PolicyText$Tokens")
  | 1 => (.array .int)
  | 2 => (.array .int)
  | 3 => (.object "PolicyText$Policy")
  | 4 => .int
  | 5 => .int
  | 6 => .boolean
  | 7 => .int
  | 8 => .int
  | 9 => .int
  | 10 => .int
  | 11 => .boolean
  | 12 => .int
  | 13 => .int
  | _ => .int
def T_T : u_T := fun k => match k with
  | 0 => ("PolicyText$Tokens", "source", "LPolicyText$Bytes;", true)
  | 1 => ("PolicyText$Tokens", "at", "I", false)
  | 2 => ("PolicyText$Tokens", "kind", "I", false)
  | 3 => ("PolicyText$Tokens", "place", "I", false)
  | 4 => ("PolicyText$Tokens", "name", "J", false)
  | _ => ("PolicyText$Tokens", "number", "I", false)
def ty_T : Nat → FieldType := fun k => match k with
  | 0 => (.object "PolicyText$Bytes")
  | 1 => .int
  | 2 => .int
  | 3 => .int
  | 4 => .long
  | _ => .int
def T_X : u_T := fun k => match k with
  | 0 => ("PolicyText", "text", "LPolicyText$Bytes;", true)
  | 1 => ("PolicyText", "reader", "LPolicyText$Reader;", true)
  | 2 => ("PolicyText", "current", "LPolicyText$Call;", true)
  | 3 => ("PolicyText", "printed", "LPolicyText$Bytes;", false)
  | 4 => ("PolicyText", "draft", "LPolicyText$Bytes;", false)
  | 5 => ("PolicyText", "policy", "LPolicyText$Policy;", false)
  | _ => ("PolicyText", "spare", "LPolicyText$Policy;", false)
def ty_X : Nat → FieldType := fun k => match k with
  | 0 => (.object "PolicyText$Bytes")
  | 1 => (.object "PolicyText$Reader")
  | 2 => (.object "PolicyText$Call")
  | 3 => (.object "PolicyText$Bytes")
  | 4 => (.object "PolicyText$Bytes")
  | 5 => (.object "PolicyText$Policy")
  | _ => (.object "PolicyText$Policy")
def T_M : u_T := fun k => match k with
  | 0 => ("PolicyTextModel", "thrown", "I", false)
  | 1 => ("PolicyTextModel", "bytes", "[I", true)
  | 2 => ("PolicyTextModel", "many", "I", false)
  | 3 => ("PolicyTextModel", "printed", "[I", true)
  | 4 => ("PolicyTextModel", "printedMany", "I", false)
  | 5 => ("PolicyTextModel", "sheet", "[I", true)
  | 6 => ("PolicyTextModel", "sheetMany", "I", false)
  | 7 => ("PolicyTextModel", "lastToken", "I", false)
  | 8 => ("PolicyTextModel", "fault", "I", false)
  | 9 => ("PolicyTextModel", "place", "I", false)
  | 10 => ("PolicyTextModel", "keptText", "[I", true)
  | 11 => ("PolicyTextModel", "counterLetters", "[I", true)
  | 12 => ("PolicyTextModel", "nodeLetters", "[I", true)
  | 13 => ("PolicyTextModel", "stands", "[I", true)
  | 14 => ("PolicyTextModel", "callNow", "I", false)
  | 15 => ("PolicyTextModel", "args", "[I", true)
  | 16 => ("PolicyTextModel", "counts", "[I", true)
  | 17 => ("PolicyTextModel", "text", "[I", true)
  | 18 => ("PolicyTextModel", "textMany", "I", false)
  | 19 => ("PolicyTextModel", "at", "I", false)
  | 20 => ("PolicyTextModel", "token", "I", false)
  | 21 => ("PolicyTextModel", "tokenPlace", "I", false)
  | 22 => ("PolicyTextModel", "name", "J", false)
  | 23 => ("PolicyTextModel", "number", "J", false)
  | 24 => ("PolicyTextModel", "bad", "I", false)
  | 25 => ("PolicyTextModel", "where", "I", false)
  | 26 => ("PolicyTextModel", "counterNames", "[J", true)
  | 27 => ("PolicyTextModel", "mosts", "[I", true)
  | 28 => ("PolicyTextModel", "counters", "I", false)
  | 29 => ("PolicyTextModel", "ruleOf", "[I", true)
  | 30 => ("PolicyTextModel", "ups", "[Z", true)
  | 31 => ("PolicyTextModel", "ruleCalls", "[I", true)
  | 32 => ("PolicyTextModel", "ruleFirst", "[I", true)
  | 33 => ("PolicyTextModel", "ruleMany", "[I", true)
  | 34 => ("PolicyTextModel", "rules", "I", false)
  | 35 => ("PolicyTextModel", "nodeNames", "[J", true)
  | 36 => ("PolicyTextModel", "nodes", "I", false)
  | 37 => ("PolicyTextModel", "wayNode", "[I", true)
  | 38 => ("PolicyTextModel", "wayCalls", "[I", true)
  | 39 => ("PolicyTextModel", "wayFirst", "[I", true)
  | 40 => ("PolicyTextModel", "wayMany", "[I", true)
  | 41 => ("PolicyTextModel", "wayNames", "[J", true)
  | 42 => ("PolicyTextModel", "wayTo", "[I", true)
  | 43 => ("PolicyTextModel", "ways", "I", false)
  | 44 => ("PolicyTextModel", "ofCounter", "[Z", true)
  | 45 => ("PolicyTextModel", "guardWhich", "[I", true)
  | 46 => ("PolicyTextModel", "guardNames", "[J", true)
  | 47 => ("PolicyTextModel", "guardHow", "[I", true)
  | 48 => ("PolicyTextModel", "guardWith", "[I", true)
  | 49 => ("PolicyTextModel", "guardNot", "[Z", true)
  | 50 => ("PolicyTextModel", "guards", "I", false)
  | 51 => ("PolicyTextModel", "looks", "[I", true)
  | _ => ("PolicyTextModel", "looksMany", "I", false)
def ty_M : Nat → FieldType := fun k => match k with
  | 0 => .int
  | 1 => (.array .int)
  | 2 => .int
  | 3 => (.array .int)
  | 4 => .int
  | 5 => (.array .int)
  | 6 => .int
  | 7 => .int
  | 8 => .int
  | 9 => .int
  | 10 => (.array .int)
  | 11 => (.array .int)
  | 12 => (.array .int)
  | 13 => (.array .int)
  | 14 => .int
  | 15 => (.array .int)
  | 16 => (.array .int)
  | 17 => (.array .int)
  | 18 => .int
  | 19 => .int
  | 20 => .int
  | 21 => .int
  | 22 => .long
  | 23 => .long
  | 24 => .int
  | 25 => .int
  | 26 => (.array .long)
  | 27 => (.array .int)
  | 28 => .int
  | 29 => (.array .int)
  | 30 => (.array .boolean)
  | 31 => (.array .int)
  | 32 => (.array .int)
  | 33 => (.array .int)
  | 34 => .int
  | 35 => (.array .long)
  | 36 => .int
  | 37 => (.array .int)
  | 38 => (.array .int)
  | 39 => (.array .int)
  | 40 => (.array .int)
  | 41 => (.array .long)
  | 42 => (.array .int)
  | 43 => .int
  | 44 => (.array .boolean)
  | 45 => (.array .int)
  | 46 => (.array .long)
  | 47 => (.array .int)
  | 48 => (.array .int)
  | 49 => (.array .boolean)
  | 50 => .int
  | 51 => (.array .int)
  | _ => .int
def vwCl : List vw_C := [("PolicyText$Bytes", T_B, 3), ("PolicyText$Call", T_C, 4), ("PolicyText$Policy", T_P, 13), ("PolicyText$Printer", T_W, 3), ("PolicyText$Reader", T_R, 15), ("PolicyText$Tokens", T_T, 6), ("PolicyText", T_X, 7), ("PolicyTextModel", T_M, 53)]
abbrev m_X_init : MethodName × ByteArray × Nat × Option FieldType := (({ cls := "PolicyText", name := "<init>", desc := "()V" } : Jvm.MethodName), prog_1_method_1_code, 1, (Option.none : Option FieldType))
abbrev m_O_init : MethodName × ByteArray × Nat × Option FieldType := (({ cls := "java/lang/Object", name := "<init>", desc := "()V" } : Jvm.MethodName), object_method_1_code, 1, (Option.none : Option FieldType))
abbrev m_B_init : MethodName × ByteArray × Nat × Option FieldType := (({ cls := "PolicyText$Bytes", name := "<init>", desc := "(I)V" } : Jvm.MethodName), prog_2_method_1_code, 2, (Option.none : Option FieldType))
abbrev m_A_max : MethodName × ByteArray × Nat × Option FieldType := (({ cls := "java/lang/Math", name := "max", desc := "(II)I" } : Jvm.MethodName), prog_11_method_65_code, 2, (Option.some FieldType.int))
abbrev m_P_init : MethodName × ByteArray × Nat × Option FieldType := (({ cls := "PolicyText$Policy", name := "<init>", desc := "()V" } : Jvm.MethodName), prog_4_method_1_code, 1, (Option.none : Option FieldType))
abbrev m_R_init : MethodName × ByteArray × Nat × Option FieldType := (({ cls := "PolicyText$Reader", name := "<init>", desc := "(LPolicyText$Bytes;LPolicyText$Policy;)V" } : Jvm.MethodName), prog_6_method_1_code, 3, (Option.none : Option FieldType))
abbrev m_T_init : MethodName × ByteArray × Nat × Option FieldType := (({ cls := "PolicyText$Tokens", name := "<init>", desc := "(LPolicyText$Bytes;)V" } : Jvm.MethodName), prog_7_method_1_code, 2, (Option.none : Option FieldType))
abbrev m_T_restart : MethodName × ByteArray × Nat × Option FieldType := (({ cls := "PolicyText$Tokens", name := "restart", desc := "()V" } : Jvm.MethodName), prog_7_method_2_code, 1, (Option.none : Option FieldType))
abbrev m_C_init : MethodName × ByteArray × Nat × Option FieldType := (({ cls := "PolicyText$Call", name := "<init>", desc := "()V" } : Jvm.MethodName), prog_3_method_1_code, 1, (Option.none : Option FieldType))
abbrev m_P_addHead : MethodName × ByteArray × Nat × Option FieldType := (({ cls := "PolicyText$Policy", name := "addHead", desc := "(ZJ)V" } : Jvm.MethodName), prog_4_method_16_code, 5, (Option.none : Option FieldType))
abbrev m_P_canAddHead : MethodName × ByteArray × Nat × Option FieldType := (({ cls := "PolicyText$Policy", name := "canAddHead", desc := "(Z)Z" } : Jvm.MethodName), prog_4_method_15_code, 2, (Option.some FieldType.boolean))
abbrev m_X_give : MethodName × ByteArray × Nat × Option FieldType := (({ cls := "PolicyText", name := "give", desc := "(JI)Z" } : Jvm.MethodName), prog_1_method_2_code, 5, (Option.some FieldType.boolean))
abbrev m_B_free : MethodName × ByteArray × Nat × Option FieldType := (({ cls := "PolicyText$Bytes", name := "free", desc := "()I" } : Jvm.MethodName), prog_2_method_3_code, 1, (Option.some FieldType.int))
abbrev m_B_add : MethodName × ByteArray × Nat × Option FieldType := (({ cls := "PolicyText$Bytes", name := "add", desc := "(I)Z" } : Jvm.MethodName), prog_2_method_6_code, 2, (Option.some FieldType.boolean))
abbrev m_B_put : MethodName × ByteArray × Nat × Option FieldType := (({ cls := "PolicyText$Bytes", name := "put", desc := "(II)Z" } : Jvm.MethodName), prog_2_method_5_code, 6, (Option.some FieldType.boolean))
abbrev m_X_cut : MethodName × ByteArray × Nat × Option FieldType := (({ cls := "PolicyText", name := "cut", desc := "(I)Z" } : Jvm.MethodName), prog_1_method_3_code, 2, (Option.some FieldType.boolean))
abbrev m_B_shorten : MethodName × ByteArray × Nat × Option FieldType := (({ cls := "PolicyText$Bytes", name := "shorten", desc := "(I)Z" } : Jvm.MethodName), prog_2_method_7_code, 2, (Option.some FieldType.boolean))
abbrev m_X_poke : MethodName × ByteArray × Nat × Option FieldType := (({ cls := "PolicyText", name := "poke", desc := "(II)Z" } : Jvm.MethodName), prog_1_method_4_code, 3, (Option.some FieldType.boolean))
abbrev m_X_read : MethodName × ByteArray × Nat × Option FieldType := (({ cls := "PolicyText", name := "read", desc := "()I" } : Jvm.MethodName), prog_1_method_5_code, 3, (Option.some FieldType.int))
abbrev m_R_readInto : MethodName × ByteArray × Nat × Option FieldType := (({ cls := "PolicyText$Reader", name := "readInto", desc := "(LPolicyText$Policy;)I" } : Jvm.MethodName), prog_6_method_4_code, 4, (Option.some FieldType.int))
abbrev m_R_begin : MethodName × ByteArray × Nat × Option FieldType := (({ cls := "PolicyText$Reader", name := "begin", desc := "(LPolicyText$Policy;)V" } : Jvm.MethodName), prog_6_method_5_code, 2, (Option.none : Option FieldType))
abbrev m_P_clear : MethodName × ByteArray × Nat × Option FieldType := (({ cls := "PolicyText$Policy", name := "clear", desc := "()V" } : Jvm.MethodName), prog_4_method_14_code, 1, (Option.none : Option FieldType))
abbrev m_T_advance : MethodName × ByteArray × Nat × Option FieldType := (({ cls := "PolicyText$Tokens", name := "advance", desc := "()V" } : Jvm.MethodName), prog_7_method_11_code, 2, (Option.none : Option FieldType))
abbrev m_B_size : MethodName × ByteArray × Nat × Option FieldType := (({ cls := "PolicyText$Bytes", name := "size", desc := "()I" } : Jvm.MethodName), prog_2_method_2_code, 1, (Option.some FieldType.int))
abbrev m_B_at : MethodName × ByteArray × Nat × Option FieldType := (({ cls := "PolicyText$Bytes", name := "at", desc := "(I)I" } : Jvm.MethodName), prog_2_method_4_code, 2, (Option.some FieldType.int))
abbrev m_T_isBlank : MethodName × ByteArray × Nat × Option FieldType := (({ cls := "PolicyText$Tokens", name := "isBlank", desc := "(I)Z" } : Jvm.MethodName), prog_7_method_16_code, 1, (Option.some FieldType.boolean))
abbrev m_T_inWord : MethodName × ByteArray × Nat × Option FieldType := (({ cls := "PolicyText$Tokens", name := "inWord", desc := "(I)Z" } : Jvm.MethodName), prog_7_method_19_code, 1, (Option.some FieldType.boolean))
abbrev m_T_isLetter : MethodName × ByteArray × Nat × Option FieldType := (({ cls := "PolicyText$Tokens", name := "isLetter", desc := "(I)Z" } : Jvm.MethodName), prog_7_method_17_code, 1, (Option.some FieldType.boolean))
abbrev m_T_isDigit : MethodName × ByteArray × Nat × Option FieldType := (({ cls := "PolicyText$Tokens", name := "isDigit", desc := "(I)Z" } : Jvm.MethodName), prog_7_method_18_code, 1, (Option.some FieldType.boolean))
abbrev m_T_takeWord : MethodName × ByteArray × Nat × Option FieldType := (({ cls := "PolicyText$Tokens", name := "takeWord", desc := "()V" } : Jvm.MethodName), prog_7_method_12_code, 1, (Option.none : Option FieldType))
abbrev m_T_takeName : MethodName × ByteArray × Nat × Option FieldType := (({ cls := "PolicyText$Tokens", name := "takeName", desc := "()Z" } : Jvm.MethodName), prog_7_method_13_code, 2, (Option.some FieldType.boolean))
abbrev m_T_nameAt : MethodName × ByteArray × Nat × Option FieldType := (({ cls := "PolicyText$Tokens", name := "nameAt", desc := "(I)J" } : Jvm.MethodName), prog_7_method_14_code, 5, (Option.some FieldType.long))
abbrev m_T_takeNumber : MethodName × ByteArray × Nat × Option FieldType := (({ cls := "PolicyText$Tokens", name := "takeNumber", desc := "()Z" } : Jvm.MethodName), prog_7_method_15_code, 9, (Option.some FieldType.boolean))
abbrev m_R_take : MethodName × ByteArray × Nat × Option FieldType := (({ cls := "PolicyText$Reader", name := "take", desc := "(I)I" } : Jvm.MethodName), prog_6_method_8_code, 2, (Option.some FieldType.int))
abbrev m_R_takeTop : MethodName × ByteArray × Nat × Option FieldType := (({ cls := "PolicyText$Reader", name := "takeTop", desc := "()I" } : Jvm.MethodName), prog_6_method_9_code, 1, (Option.some FieldType.int))
abbrev m_T_isA : MethodName × ByteArray × Nat × Option FieldType := (({ cls := "PolicyText$Tokens", name := "isA", desc := "(I)Z" } : Jvm.MethodName), prog_7_method_3_code, 2, (Option.some FieldType.boolean))
abbrev m_P_heads : MethodName × ByteArray × Nat × Option FieldType := (({ cls := "PolicyText$Policy", name := "heads", desc := "(Z)I" } : Jvm.MethodName), prog_4_method_2_code, 2, (Option.some FieldType.int))
abbrev m_T_place : MethodName × ByteArray × Nat × Option FieldType := (({ cls := "PolicyText$Tokens", name := "place", desc := "()I" } : Jvm.MethodName), prog_7_method_4_code, 1, (Option.some FieldType.int))
abbrev m_R_fail : MethodName × ByteArray × Nat × Option FieldType := (({ cls := "PolicyText$Reader", name := "fail", desc := "(II)V" } : Jvm.MethodName), prog_6_method_6_code, 3, (Option.none : Option FieldType))
abbrev m_R_takeHeadWord : MethodName × ByteArray × Nat × Option FieldType := (({ cls := "PolicyText$Reader", name := "takeHeadWord", desc := "()I" } : Jvm.MethodName), prog_6_method_10_code, 1, (Option.some FieldType.int))
abbrev m_T_isWord : MethodName × ByteArray × Nat × Option FieldType := (({ cls := "PolicyText$Tokens", name := "isWord", desc := "(Ljava/lang/String;)Z" } : Jvm.MethodName), prog_7_method_8_code, 3, (Option.some FieldType.boolean))
abbrev m_S_length : MethodName × ByteArray × Nat × Option FieldType := (({ cls := "java/lang/String", name := "length", desc := "()I" } : Jvm.MethodName), prog_12_method_54_code, 1, (Option.some FieldType.int))
abbrev m_S_coder : MethodName × ByteArray × Nat × Option FieldType := (({ cls := "java/lang/String", name := "coder", desc := "()B" } : Jvm.MethodName), prog_12_method_152_code, 1, (Option.some FieldType.byte))
abbrev m_S_charAt : MethodName × ByteArray × Nat × Option FieldType := (({ cls := "java/lang/String", name := "charAt", desc := "(I)C" } : Jvm.MethodName), prog_12_method_56_code, 2, (Option.some FieldType.char))
abbrev m_S_isLatin1 : MethodName × ByteArray × Nat × Option FieldType := (({ cls := "java/lang/String", name := "isLatin1", desc := "()Z" } : Jvm.MethodName), prog_12_method_154_code, 1, (Option.some FieldType.boolean))
abbrev m_SL_charAt : MethodName × ByteArray × Nat × Option FieldType := (({ cls := "java/lang/StringLatin1", name := "charAt", desc := "([BI)C" } : Jvm.MethodName), prog_13_method_2_code, 2, (Option.some FieldType.char))
abbrev m_S_checkIndex : MethodName × ByteArray × Nat × Option FieldType := (({ cls := "java/lang/String", name := "checkIndex", desc := "(II)V" } : Jvm.MethodName), prog_12_method_155_code, 2, (Option.none : Option FieldType))
abbrev m_Q_checkIndex : MethodName × ByteArray × Nat × Option FieldType := (({ cls := "jdk/internal/util/Preconditions", name := "checkIndex", desc := "(IILjava/util/function/BiFunction;)I" } : Jvm.MethodName), prog_16_method_11_code, 3, (Option.some FieldType.int))
abbrev m_SU_charAt : MethodName × ByteArray × Nat × Option FieldType := (({ cls := "java/lang/StringUTF16", name := "charAt", desc := "([BI)C" } : Jvm.MethodName), prog_14_method_83_code, 2, (Option.some FieldType.char))
abbrev m_SU_checkIndex : MethodName × ByteArray × Nat × Option FieldType := (({ cls := "java/lang/StringUTF16", name := "checkIndex", desc := "(I[B)V" } : Jvm.MethodName), prog_14_method_91_code, 2, (Option.none : Option FieldType))
abbrev m_SU_length : MethodName × ByteArray × Nat × Option FieldType := (({ cls := "java/lang/StringUTF16", name := "length", desc := "([B)I" } : Jvm.MethodName), prog_14_method_6_code, 1, (Option.some FieldType.int))
abbrev m_SU_getChar : MethodName × ByteArray × Nat × Option FieldType := (({ cls := "java/lang/StringUTF16", name := "getChar", desc := "([BI)C" } : Jvm.MethodName), prog_14_method_5_code, 2, (Option.some FieldType.char))
abbrev m_R_takeHeadName : MethodName × ByteArray × Nat × Option FieldType := (({ cls := "PolicyText$Reader", name := "takeHeadName", desc := "(ZI)I" } : Jvm.MethodName), prog_6_method_11_code, 3, (Option.some FieldType.int))
abbrev m_T_isFreeName : MethodName × ByteArray × Nat × Option FieldType := (({ cls := "PolicyText$Tokens", name := "isFreeName", desc := "()Z" } : Jvm.MethodName), prog_7_method_9_code, 3, (Option.some FieldType.boolean))
abbrev m_T_name : MethodName × ByteArray × Nat × Option FieldType := (({ cls := "PolicyText$Tokens", name := "name", desc := "()J" } : Jvm.MethodName), prog_7_method_5_code, 1, (Option.some FieldType.long))
abbrev m_P_find : MethodName × ByteArray × Nat × Option FieldType := (({ cls := "PolicyText$Policy", name := "find", desc := "(ZJ)I" } : Jvm.MethodName), prog_4_method_13_code, 6, (Option.some FieldType.int))
abbrev m_R_takeCounterTop : MethodName × ByteArray × Nat × Option FieldType := (({ cls := "PolicyText$Reader", name := "takeCounterTop", desc := "()I" } : Jvm.MethodName), prog_6_method_12_code, 1, (Option.some FieldType.int))
abbrev m_T_isNumber : MethodName × ByteArray × Nat × Option FieldType := (({ cls := "PolicyText$Tokens", name := "isNumber", desc := "(II)Z" } : Jvm.MethodName), prog_7_method_7_code, 3, (Option.some FieldType.boolean))
abbrev m_T_number : MethodName × ByteArray × Nat × Option FieldType := (({ cls := "PolicyText$Tokens", name := "number", desc := "()I" } : Jvm.MethodName), prog_7_method_6_code, 1, (Option.some FieldType.int))
abbrev m_P_setTopOfLast : MethodName × ByteArray × Nat × Option FieldType := (({ cls := "PolicyText$Policy", name := "setTopOfLast", desc := "(I)V" } : Jvm.MethodName), prog_4_method_17_code, 3, (Option.none : Option FieldType))
abbrev m_P_headRow : MethodName × ByteArray × Nat × Option FieldType := (({ cls := "PolicyText$Policy", name := "headRow", desc := "(ZI)I" } : Jvm.MethodName), prog_4_method_4_code, 3, (Option.some FieldType.int))
abbrev m_R_takeClauseOrClose : MethodName × ByteArray × Nat × Option FieldType := (({ cls := "PolicyText$Reader", name := "takeClauseOrClose", desc := "()I" } : Jvm.MethodName), prog_6_method_13_code, 1, (Option.some FieldType.int))
abbrev m_P_canAddClause : MethodName × ByteArray × Nat × Option FieldType := (({ cls := "PolicyText$Policy", name := "canAddClause", desc := "(Z)Z" } : Jvm.MethodName), prog_4_method_18_code, 3, (Option.some FieldType.boolean))
abbrev m_R_takeClauseWord : MethodName × ByteArray × Nat × Option FieldType := (({ cls := "PolicyText$Reader", name := "takeClauseWord", desc := "()I" } : Jvm.MethodName), prog_6_method_14_code, 1, (Option.some FieldType.int))
abbrev m_R_takeCall : MethodName × ByteArray × Nat × Option FieldType := (({ cls := "PolicyText$Reader", name := "takeCall", desc := "()I" } : Jvm.MethodName), prog_6_method_15_code, 2, (Option.some FieldType.int))
abbrev m_P_addClause : MethodName × ByteArray × Nat × Option FieldType := (({ cls := "PolicyText$Policy", name := "addClause", desc := "(ZII)I" } : Jvm.MethodName), prog_4_method_19_code, 7, (Option.some FieldType.int))
abbrev m_P_clauseRow : MethodName × ByteArray × Nat × Option FieldType := (({ cls := "PolicyText$Policy", name := "clauseRow", desc := "(ZII)I" } : Jvm.MethodName), prog_4_method_5_code, 5, (Option.some FieldType.int))
abbrev m_R_takeTestOrGoal : MethodName × ByteArray × Nat × Option FieldType := (({ cls := "PolicyText$Reader", name := "takeTestOrGoal", desc := "()I" } : Jvm.MethodName), prog_6_method_16_code, 1, (Option.some FieldType.int))
abbrev m_P_canAddTest : MethodName × ByteArray × Nat × Option FieldType := (({ cls := "PolicyText$Policy", name := "canAddTest", desc := "(I)Z" } : Jvm.MethodName), prog_4_method_20_code, 2, (Option.some FieldType.boolean))
abbrev m_R_keepPlace : MethodName × ByteArray × Nat × Option FieldType := (({ cls := "PolicyText$Reader", name := "keepPlace", desc := "([III)V" } : Jvm.MethodName), prog_6_method_23_code, 3, (Option.none : Option FieldType))
abbrev m_R_takeTestWord : MethodName × ByteArray × Nat × Option FieldType := (({ cls := "PolicyText$Reader", name := "takeTestWord", desc := "()I" } : Jvm.MethodName), prog_6_method_17_code, 1, (Option.some FieldType.int))
abbrev m_R_takeArgument : MethodName × ByteArray × Nat × Option FieldType := (({ cls := "PolicyText$Reader", name := "takeArgument", desc := "()I" } : Jvm.MethodName), prog_6_method_18_code, 1, (Option.some FieldType.int))
abbrev m_R_takeCounted : MethodName × ByteArray × Nat × Option FieldType := (({ cls := "PolicyText$Reader", name := "takeCounted", desc := "()I" } : Jvm.MethodName), prog_6_method_19_code, 1, (Option.some FieldType.int))
abbrev m_R_takeOp : MethodName × ByteArray × Nat × Option FieldType := (({ cls := "PolicyText$Reader", name := "takeOp", desc := "()I" } : Jvm.MethodName), prog_6_method_20_code, 1, (Option.some FieldType.int))
abbrev m_T_opNumber : MethodName × ByteArray × Nat × Option FieldType := (({ cls := "PolicyText$Tokens", name := "opNumber", desc := "()I" } : Jvm.MethodName), prog_7_method_10_code, 1, (Option.some FieldType.int))
abbrev m_R_takeBound : MethodName × ByteArray × Nat × Option FieldType := (({ cls := "PolicyText$Reader", name := "takeBound", desc := "()I" } : Jvm.MethodName), prog_6_method_21_code, 3, (Option.some FieldType.int))
abbrev m_P_shapeOf : MethodName × ByteArray × Nat × Option FieldType := (({ cls := "PolicyText$Policy", name := "shapeOf", desc := "(ZIIZ)I" } : Jvm.MethodName), prog_4_method_32_code, 4, (Option.some FieldType.int))
abbrev m_P_addTest : MethodName × ByteArray × Nat × Option FieldType := (({ cls := "PolicyText$Policy", name := "addTest", desc := "(III)I" } : Jvm.MethodName), prog_4_method_21_code, 5, (Option.some FieldType.int))
abbrev m_R_takeTestClose : MethodName × ByteArray × Nat × Option FieldType := (({ cls := "PolicyText$Reader", name := "takeTestClose", desc := "()I" } : Jvm.MethodName), prog_6_method_22_code, 1, (Option.some FieldType.int))
abbrev m_R_faultOfToken : MethodName × ByteArray × Nat × Option FieldType := (({ cls := "PolicyText$Reader", name := "faultOfToken", desc := "()I" } : Jvm.MethodName), prog_6_method_7_code, 1, (Option.some FieldType.int))
abbrev m_R_linkHeads : MethodName × ByteArray × Nat × Option FieldType := (({ cls := "PolicyText$Reader", name := "linkHeads", desc := "(Z)V" } : Jvm.MethodName), prog_6_method_25_code, 5, (Option.none : Option FieldType))
abbrev m_P_nodePart : MethodName × ByteArray × Nat × Option FieldType := (({ cls := "PolicyText$Policy", name := "nodePart", desc := "(II)I" } : Jvm.MethodName), prog_4_method_8_code, 4, (Option.some FieldType.int))
abbrev m_P_lettersOf : MethodName × ByteArray × Nat × Option FieldType := (({ cls := "PolicyText$Policy", name := "lettersOf", desc := "(J)I" } : Jvm.MethodName), prog_4_method_31_code, 4, (Option.some FieldType.int))
abbrev m_P_counterPart : MethodName × ByteArray × Nat × Option FieldType := (({ cls := "PolicyText$Policy", name := "counterPart", desc := "(II)I" } : Jvm.MethodName), prog_4_method_7_code, 4, (Option.some FieldType.int))
abbrev m_R_linkClause : MethodName × ByteArray × Nat × Option FieldType := (({ cls := "PolicyText$Reader", name := "linkClause", desc := "(ZII)V" } : Jvm.MethodName), prog_6_method_26_code, 8, (Option.none : Option FieldType))
abbrev m_P_clausePart : MethodName × ByteArray × Nat × Option FieldType := (({ cls := "PolicyText$Policy", name := "clausePart", desc := "(ZIII)I" } : Jvm.MethodName), prog_4_method_9_code, 6, (Option.some FieldType.int))
abbrev m_C_argumentsOf : MethodName × ByteArray × Nat × Option FieldType := (({ cls := "PolicyText$Call", name := "argumentsOf", desc := "(I)I" } : Jvm.MethodName), prog_3_method_6_code, 1, (Option.some FieldType.int))
abbrev m_P_testRow : MethodName × ByteArray × Nat × Option FieldType := (({ cls := "PolicyText$Policy", name := "testRow", desc := "(ZIII)I" } : Jvm.MethodName), prog_4_method_6_code, 6, (Option.some FieldType.int))
abbrev m_P_testPart : MethodName × ByteArray × Nat × Option FieldType := (({ cls := "PolicyText$Policy", name := "testPart", desc := "(II)I" } : Jvm.MethodName), prog_4_method_10_code, 3, (Option.some FieldType.int))
abbrev m_P_partOf : MethodName × ByteArray × Nat × Option FieldType := (({ cls := "PolicyText$Policy", name := "partOf", desc := "(II)I" } : Jvm.MethodName), prog_4_method_33_code, 2, (Option.some FieldType.int))
abbrev m_R_placeIn : MethodName × ByteArray × Nat × Option FieldType := (({ cls := "PolicyText$Reader", name := "placeIn", desc := "([II)I" } : Jvm.MethodName), prog_6_method_24_code, 2, (Option.some FieldType.int))
abbrev m_R_linked : MethodName × ByteArray × Nat × Option FieldType := (({ cls := "PolicyText$Reader", name := "linked", desc := "(ZI)I" } : Jvm.MethodName), prog_6_method_27_code, 4, (Option.some FieldType.int))
abbrev m_P_setWhich : MethodName × ByteArray × Nat × Option FieldType := (({ cls := "PolicyText$Policy", name := "setWhich", desc := "(II)V" } : Jvm.MethodName), prog_4_method_23_code, 3, (Option.none : Option FieldType))
abbrev m_P_setGoal : MethodName × ByteArray × Nat × Option FieldType := (({ cls := "PolicyText$Policy", name := "setGoal", desc := "(II)V" } : Jvm.MethodName), prog_4_method_22_code, 3, (Option.none : Option FieldType))
abbrev m_X_print : MethodName × ByteArray × Nat × Option FieldType := (({ cls := "PolicyText", name := "print", desc := "()I" } : Jvm.MethodName), prog_1_method_6_code, 3, (Option.some FieldType.int))
abbrev m_W_init : MethodName × ByteArray × Nat × Option FieldType := (({ cls := "PolicyText$Printer", name := "<init>", desc := "(LPolicyText$Policy;LPolicyText$Bytes;)V" } : Jvm.MethodName), prog_5_method_1_code, 3, (Option.none : Option FieldType))
abbrev m_W_writeCounter : MethodName × ByteArray × Nat × Option FieldType := (({ cls := "PolicyText$Printer", name := "writeCounter", desc := "(I)V" } : Jvm.MethodName), prog_5_method_3_code, 4, (Option.none : Option FieldType))
abbrev m_W_writeText : MethodName × ByteArray × Nat × Option FieldType := (({ cls := "PolicyText$Printer", name := "writeText", desc := "(Ljava/lang/String;)V" } : Jvm.MethodName), prog_5_method_9_code, 3, (Option.none : Option FieldType))
abbrev m_P_nameOf : MethodName × ByteArray × Nat × Option FieldType := (({ cls := "PolicyText$Policy", name := "nameOf", desc := "(ZI)J" } : Jvm.MethodName), prog_4_method_12_code, 4, (Option.some FieldType.long))
abbrev m_W_writeName : MethodName × ByteArray × Nat × Option FieldType := (({ cls := "PolicyText$Printer", name := "writeName", desc := "(J)V" } : Jvm.MethodName), prog_5_method_7_code, 5, (Option.none : Option FieldType))
abbrev m_W_writeNumber : MethodName × ByteArray × Nat × Option FieldType := (({ cls := "PolicyText$Printer", name := "writeNumber", desc := "(I)V" } : Jvm.MethodName), prog_5_method_8_code, 6, (Option.none : Option FieldType))
abbrev m_W_writeCallAndTests : MethodName × ByteArray × Nat × Option FieldType := (({ cls := "PolicyText$Printer", name := "writeCallAndTests", desc := "(ZII)V" } : Jvm.MethodName), prog_5_method_5_code, 9, (Option.none : Option FieldType))
abbrev m_W_writeTest : MethodName × ByteArray × Nat × Option FieldType := (({ cls := "PolicyText$Printer", name := "writeTest", desc := "(I)V" } : Jvm.MethodName), prog_5_method_6_code, 4, (Option.none : Option FieldType))
abbrev m_P_boundOf : MethodName × ByteArray × Nat × Option FieldType := (({ cls := "PolicyText$Policy", name := "boundOf", desc := "(I)I" } : Jvm.MethodName), prog_4_method_11_code, 2, (Option.some FieldType.int))
abbrev m_W_writeNode : MethodName × ByteArray × Nat × Option FieldType := (({ cls := "PolicyText$Printer", name := "writeNode", desc := "(I)V" } : Jvm.MethodName), prog_5_method_4_code, 4, (Option.none : Option FieldType))
abbrev m_W_hasFitted : MethodName × ByteArray × Nat × Option FieldType := (({ cls := "PolicyText$Printer", name := "hasFitted", desc := "()Z" } : Jvm.MethodName), prog_5_method_2_code, 1, (Option.some FieldType.boolean))
abbrev m_X_turnOver : MethodName × ByteArray × Nat × Option FieldType := (({ cls := "PolicyText", name := "turnOver", desc := "()Z" } : Jvm.MethodName), prog_1_method_7_code, 1, (Option.some FieldType.boolean))
abbrev m_B_become : MethodName × ByteArray × Nat × Option FieldType := (({ cls := "PolicyText$Bytes", name := "become", desc := "(LPolicyText$Bytes;)Z" } : Jvm.MethodName), prog_2_method_8_code, 2, (Option.some FieldType.boolean))
abbrev m_X_stand : MethodName × ByteArray × Nat × Option FieldType := (({ cls := "PolicyText", name := "stand", desc := "(II)Z" } : Jvm.MethodName), prog_1_method_8_code, 3, (Option.some FieldType.boolean))
abbrev m_P_setStand : MethodName × ByteArray × Nat × Option FieldType := (({ cls := "PolicyText$Policy", name := "setStand", desc := "(II)Z" } : Jvm.MethodName), prog_4_method_24_code, 4, (Option.some FieldType.boolean))
abbrev m_X_counter : MethodName × ByteArray × Nat × Option FieldType := (({ cls := "PolicyText", name := "counter", desc := "(II)I" } : Jvm.MethodName), prog_1_method_9_code, 3, (Option.some FieldType.int))
abbrev m_X_node : MethodName × ByteArray × Nat × Option FieldType := (({ cls := "PolicyText", name := "node", desc := "(II)I" } : Jvm.MethodName), prog_1_method_10_code, 3, (Option.some FieldType.int))
abbrev m_X_clause : MethodName × ByteArray × Nat × Option FieldType := (({ cls := "PolicyText", name := "clause", desc := "(ZIII)I" } : Jvm.MethodName), prog_1_method_11_code, 5, (Option.some FieldType.int))
abbrev m_X_test : MethodName × ByteArray × Nat × Option FieldType := (({ cls := "PolicyText", name := "test", desc := "(ZIIII)I" } : Jvm.MethodName), prog_1_method_12_code, 6, (Option.some FieldType.int))
abbrev m_X_than : MethodName × ByteArray × Nat × Option FieldType := (({ cls := "PolicyText", name := "than", desc := "(ZIII)I" } : Jvm.MethodName), prog_1_method_13_code, 5, (Option.some FieldType.int))
abbrev m_X_call : MethodName × ByteArray × Nat × Option FieldType := (({ cls := "PolicyText", name := "call", desc := "(IIII)Z" } : Jvm.MethodName), prog_1_method_14_code, 5, (Option.some FieldType.boolean))
abbrev m_C_become : MethodName × ByteArray × Nat × Option FieldType := (({ cls := "PolicyText$Call", name := "become", desc := "(IIII)V" } : Jvm.MethodName), prog_3_method_2_code, 5, (Option.none : Option FieldType))
abbrev m_X_holds : MethodName × ByteArray × Nat × Option FieldType := (({ cls := "PolicyText", name := "holds", desc := "(ZII)Z" } : Jvm.MethodName), prog_1_method_15_code, 4, (Option.some FieldType.boolean))
abbrev m_P_applies : MethodName × ByteArray × Nat × Option FieldType := (({ cls := "PolicyText$Policy", name := "applies", desc := "(ZIILPolicyText$Call;)Z" } : Jvm.MethodName), prog_4_method_25_code, 7, (Option.some FieldType.boolean))
abbrev m_C_isOf : MethodName × ByteArray × Nat × Option FieldType := (({ cls := "PolicyText$Call", name := "isOf", desc := "(I)Z" } : Jvm.MethodName), prog_3_method_3_code, 2, (Option.some FieldType.boolean))
abbrev m_P_isTrue : MethodName × ByteArray × Nat × Option FieldType := (({ cls := "PolicyText$Policy", name := "isTrue", desc := "(ILPolicyText$Call;)Z" } : Jvm.MethodName), prog_4_method_26_code, 7, (Option.some FieldType.boolean))
abbrev m_P_compares : MethodName × ByteArray × Nat × Option FieldType := (({ cls := "PolicyText$Policy", name := "compares", desc := "(III)Z" } : Jvm.MethodName), prog_4_method_30_code, 3, (Option.some FieldType.boolean))
abbrev m_C_has : MethodName × ByteArray × Nat × Option FieldType := (({ cls := "PolicyText$Call", name := "has", desc := "(I)Z" } : Jvm.MethodName), prog_3_method_4_code, 2, (Option.some FieldType.boolean))
abbrev m_C_argument : MethodName × ByteArray × Nat × Option FieldType := (({ cls := "PolicyText$Call", name := "argument", desc := "(I)I" } : Jvm.MethodName), prog_3_method_5_code, 2, (Option.some FieldType.int))
abbrev m_X_make : MethodName × ByteArray × Nat × Option FieldType := (({ cls := "PolicyText", name := "make", desc := "(I)I" } : Jvm.MethodName), prog_1_method_16_code, 3, (Option.some FieldType.int))
abbrev m_P_reachedFrom : MethodName × ByteArray × Nat × Option FieldType := (({ cls := "PolicyText$Policy", name := "reachedFrom", desc := "(ILPolicyText$Call;)I" } : Jvm.MethodName), prog_4_method_27_code, 6, (Option.some FieldType.int))
abbrev m_I_bitCount : MethodName × ByteArray × Nat × Option FieldType := (({ cls := "java/lang/Integer", name := "bitCount", desc := "(I)I" } : Jvm.MethodName), prog_10_method_49_code, 1, (Option.some FieldType.int))
abbrev m_P_moveCounters : MethodName × ByteArray × Nat × Option FieldType := (({ cls := "PolicyText$Policy", name := "moveCounters", desc := "(LPolicyText$Call;)V" } : Jvm.MethodName), prog_4_method_28_code, 3, (Option.none : Option FieldType))
abbrev m_P_standAfter : MethodName × ByteArray × Nat × Option FieldType := (({ cls := "PolicyText$Policy", name := "standAfter", desc := "(ILPolicyText$Call;)I" } : Jvm.MethodName), prog_4_method_29_code, 7, (Option.some FieldType.int))
abbrev m_A_min : MethodName × ByteArray × Nat × Option FieldType := (({ cls := "java/lang/Math", name := "min", desc := "(II)I" } : Jvm.MethodName), prog_11_method_69_code, 2, (Option.some FieldType.int))
abbrev m_X_byteAt : MethodName × ByteArray × Nat × Option FieldType := (({ cls := "PolicyText", name := "byteAt", desc := "(IZ)I" } : Jvm.MethodName), prog_1_method_17_code, 3, (Option.some FieldType.int))
abbrev m_X_look : MethodName × ByteArray × Nat × Option FieldType := (({ cls := "PolicyText", name := "look", desc := "(I)I" } : Jvm.MethodName), prog_1_method_18_code, 2, (Option.some FieldType.int))
abbrev m_R_latestFault : MethodName × ByteArray × Nat × Option FieldType := (({ cls := "PolicyText$Reader", name := "latestFault", desc := "()I" } : Jvm.MethodName), prog_6_method_2_code, 1, (Option.some FieldType.int))
abbrev m_R_latestPlace : MethodName × ByteArray × Nat × Option FieldType := (({ cls := "PolicyText$Reader", name := "latestPlace", desc := "()I" } : Jvm.MethodName), prog_6_method_3_code, 1, (Option.some FieldType.int))
abbrev m_P_testsInAll : MethodName × ByteArray × Nat × Option FieldType := (({ cls := "PolicyText$Policy", name := "testsInAll", desc := "()I" } : Jvm.MethodName), prog_4_method_3_code, 1, (Option.some FieldType.int))
abbrev m_M_init : MethodName × ByteArray × Nat × Option FieldType := (({ cls := "PolicyTextModel", name := "<init>", desc := "()V" } : Jvm.MethodName), prog_9_method_1_code, 1, (Option.none : Option FieldType))
abbrev m_M_readPolicy : MethodName × ByteArray × Nat × Option FieldType := (({ cls := "PolicyTextModel", name := "readPolicy", desc := "()V" } : Jvm.MethodName), prog_9_method_22_code, 2, (Option.none : Option FieldType))
abbrev m_M_next : MethodName × ByteArray × Nat × Option FieldType := (({ cls := "PolicyTextModel", name := "next", desc := "()V" } : Jvm.MethodName), prog_9_method_13_code, 3, (Option.none : Option FieldType))
abbrev m_M_letterAt : MethodName × ByteArray × Nat × Option FieldType := (({ cls := "PolicyTextModel", name := "letterAt", desc := "(I)I" } : Jvm.MethodName), prog_9_method_9_code, 2, (Option.some FieldType.int))
abbrev m_M_isOfWord : MethodName × ByteArray × Nat × Option FieldType := (({ cls := "PolicyTextModel", name := "isOfWord", desc := "(I)Z" } : Jvm.MethodName), prog_9_method_12_code, 1, (Option.some FieldType.boolean))
abbrev m_M_isDigit : MethodName × ByteArray × Nat × Option FieldType := (({ cls := "PolicyTextModel", name := "isDigit", desc := "(I)Z" } : Jvm.MethodName), prog_9_method_10_code, 1, (Option.some FieldType.boolean))
abbrev m_M_isSmall : MethodName × ByteArray × Nat × Option FieldType := (({ cls := "PolicyTextModel", name := "isSmall", desc := "(I)Z" } : Jvm.MethodName), prog_9_method_11_code, 1, (Option.some FieldType.boolean))
abbrev m_M_wrong : MethodName × ByteArray × Nat × Option FieldType := (({ cls := "PolicyTextModel", name := "wrong", desc := "(II)V" } : Jvm.MethodName), prog_9_method_8_code, 3, (Option.none : Option FieldType))
abbrev m_M_takeName : MethodName × ByteArray × Nat × Option FieldType := (({ cls := "PolicyTextModel", name := "takeName", desc := "(I)V" } : Jvm.MethodName), prog_9_method_14_code, 4, (Option.none : Option FieldType))
abbrev m_M_takeNumber : MethodName × ByteArray × Nat × Option FieldType := (({ cls := "PolicyTextModel", name := "takeNumber", desc := "(I)V" } : Jvm.MethodName), prog_9_method_15_code, 7, (Option.none : Option FieldType))
abbrev m_M_isWord : MethodName × ByteArray × Nat × Option FieldType := (({ cls := "PolicyTextModel", name := "isWord", desc := "(Ljava/lang/String;)Z" } : Jvm.MethodName), prog_9_method_17_code, 2, (Option.some FieldType.boolean))
abbrev m_M_named : MethodName × ByteArray × Nat × Option FieldType := (({ cls := "PolicyTextModel", name := "named", desc := "(Ljava/lang/String;)J" } : Jvm.MethodName), prog_9_method_16_code, 4, (Option.some FieldType.long))
abbrev m_M_readCounter : MethodName × ByteArray × Nat × Option FieldType := (({ cls := "PolicyTextModel", name := "readCounter", desc := "()V" } : Jvm.MethodName), prog_9_method_24_code, 2, (Option.none : Option FieldType))
abbrev m_M_isReserved : MethodName × ByteArray × Nat × Option FieldType := (({ cls := "PolicyTextModel", name := "isReserved", desc := "()Z" } : Jvm.MethodName), prog_9_method_18_code, 1, (Option.some FieldType.boolean))
abbrev m_M_isOld : MethodName × ByteArray × Nat × Option FieldType := (({ cls := "PolicyTextModel", name := "isOld", desc := "([JI)Z" } : Jvm.MethodName), prog_9_method_23_code, 5, (Option.some FieldType.boolean))
abbrev m_M_must : MethodName × ByteArray × Nat × Option FieldType := (({ cls := "PolicyTextModel", name := "must", desc := "(Z)Z" } : Jvm.MethodName), prog_9_method_19_code, 2, (Option.some FieldType.boolean))
abbrev m_M_readCall : MethodName × ByteArray × Nat × Option FieldType := (({ cls := "PolicyTextModel", name := "readCall", desc := "()I" } : Jvm.MethodName), prog_9_method_26_code, 3, (Option.some FieldType.int))
abbrev m_M_readGuards : MethodName × ByteArray × Nat × Option FieldType := (({ cls := "PolicyTextModel", name := "readGuards", desc := "(I)V" } : Jvm.MethodName), prog_9_method_28_code, 3, (Option.none : Option FieldType))
abbrev m_M_readGuard : MethodName × ByteArray × Nat × Option FieldType := (({ cls := "PolicyTextModel", name := "readGuard", desc := "(I)V" } : Jvm.MethodName), prog_9_method_29_code, 4, (Option.none : Option FieldType))
abbrev m_M_expect : MethodName × ByteArray × Nat × Option FieldType := (({ cls := "PolicyTextModel", name := "expect", desc := "(I)V" } : Jvm.MethodName), prog_9_method_20_code, 2, (Option.none : Option FieldType))
abbrev m_M_note : MethodName × ByteArray × Nat × Option FieldType := (({ cls := "PolicyTextModel", name := "note", desc := "(III)V" } : Jvm.MethodName), prog_9_method_27_code, 4, (Option.none : Option FieldType))
abbrev m_M_readNode : MethodName × ByteArray × Nat × Option FieldType := (({ cls := "PolicyTextModel", name := "readNode", desc := "()V" } : Jvm.MethodName), prog_9_method_25_code, 4, (Option.none : Option FieldType))
abbrev m_M_expectWord : MethodName × ByteArray × Nat × Option FieldType := (({ cls := "PolicyTextModel", name := "expectWord", desc := "(Ljava/lang/String;)V" } : Jvm.MethodName), prog_9_method_21_code, 2, (Option.none : Option FieldType))
abbrev m_M_resolve : MethodName × ByteArray × Nat × Option FieldType := (({ cls := "PolicyTextModel", name := "resolve", desc := "()V" } : Jvm.MethodName), prog_9_method_30_code, 7, (Option.none : Option FieldType))
abbrev m_M_give : MethodName × ByteArray × Nat × Option FieldType := (({ cls := "PolicyTextModel", name := "give", desc := "(JI)Z" } : Jvm.MethodName), prog_9_method_3_code, 5, (Option.some FieldType.boolean))
abbrev m_M_cut : MethodName × ByteArray × Nat × Option FieldType := (({ cls := "PolicyTextModel", name := "cut", desc := "(I)Z" } : Jvm.MethodName), prog_9_method_4_code, 2, (Option.some FieldType.boolean))
abbrev m_M_poke : MethodName × ByteArray × Nat × Option FieldType := (({ cls := "PolicyTextModel", name := "poke", desc := "(II)Z" } : Jvm.MethodName), prog_9_method_5_code, 3, (Option.some FieldType.boolean))
abbrev m_M_turnOver : MethodName × ByteArray × Nat × Option FieldType := (({ cls := "PolicyTextModel", name := "turnOver", desc := "()Z" } : Jvm.MethodName), prog_9_method_6_code, 2, (Option.some FieldType.boolean))
abbrev m_M_byteAt : MethodName × ByteArray × Nat × Option FieldType := (({ cls := "PolicyTextModel", name := "byteAt", desc := "(IZ)I" } : Jvm.MethodName), prog_9_method_7_code, 3, (Option.some FieldType.int))
abbrev m_M_read : MethodName × ByteArray × Nat × Option FieldType := (({ cls := "PolicyTextModel", name := "read", desc := "()I" } : Jvm.MethodName), prog_9_method_31_code, 3, (Option.some FieldType.int))
abbrev m_M_print : MethodName × ByteArray × Nat × Option FieldType := (({ cls := "PolicyTextModel", name := "print", desc := "()I" } : Jvm.MethodName), prog_9_method_41_code, 3, (Option.some FieldType.int))
abbrev m_M_open : MethodName × ByteArray × Nat × Option FieldType := (({ cls := "PolicyTextModel", name := "open", desc := "()V" } : Jvm.MethodName), prog_9_method_34_code, 1, (Option.none : Option FieldType))
abbrev m_M_blank : MethodName × ByteArray × Nat × Option FieldType := (({ cls := "PolicyTextModel", name := "blank", desc := "(Z)V" } : Jvm.MethodName), prog_9_method_33_code, 2, (Option.none : Option FieldType))
abbrev m_M_lay : MethodName × ByteArray × Nat × Option FieldType := (({ cls := "PolicyTextModel", name := "lay", desc := "(I)V" } : Jvm.MethodName), prog_9_method_32_code, 2, (Option.none : Option FieldType))
abbrev m_M_word : MethodName × ByteArray × Nat × Option FieldType := (({ cls := "PolicyTextModel", name := "word", desc := "(Ljava/lang/String;)V" } : Jvm.MethodName), prog_9_method_36_code, 3, (Option.none : Option FieldType))
abbrev m_M_nameOut : MethodName × ByteArray × Nat × Option FieldType := (({ cls := "PolicyTextModel", name := "nameOut", desc := "(JI)V" } : Jvm.MethodName), prog_9_method_37_code, 8, (Option.none : Option FieldType))
abbrev m_M_numberOut : MethodName × ByteArray × Nat × Option FieldType := (({ cls := "PolicyTextModel", name := "numberOut", desc := "(J)V" } : Jvm.MethodName), prog_9_method_38_code, 9, (Option.none : Option FieldType))
abbrev m_M_clauseOut : MethodName × ByteArray × Nat × Option FieldType := (({ cls := "PolicyTextModel", name := "clauseOut", desc := "(III)V" } : Jvm.MethodName), prog_9_method_39_code, 5, (Option.none : Option FieldType))
abbrev m_M_close : MethodName × ByteArray × Nat × Option FieldType := (({ cls := "PolicyTextModel", name := "close", desc := "()V" } : Jvm.MethodName), prog_9_method_35_code, 1, (Option.none : Option FieldType))
abbrev m_M_lineOut : MethodName × ByteArray × Nat × Option FieldType := (({ cls := "PolicyTextModel", name := "lineOut", desc := "()V" } : Jvm.MethodName), prog_9_method_40_code, 1, (Option.none : Option FieldType))
abbrev m_M_stand : MethodName × ByteArray × Nat × Option FieldType := (({ cls := "PolicyTextModel", name := "stand", desc := "(II)Z" } : Jvm.MethodName), prog_9_method_48_code, 3, (Option.some FieldType.boolean))
abbrev m_M_counter : MethodName × ByteArray × Nat × Option FieldType := (({ cls := "PolicyTextModel", name := "counter", desc := "(II)I" } : Jvm.MethodName), prog_9_method_49_code, 3, (Option.some FieldType.int))
abbrev m_M_howMany : MethodName × ByteArray × Nat × Option FieldType := (({ cls := "PolicyTextModel", name := "howMany", desc := "(ZI)I" } : Jvm.MethodName), prog_9_method_47_code, 4, (Option.some FieldType.int))
abbrev m_M_clauseAt : MethodName × ByteArray × Nat × Option FieldType := (({ cls := "PolicyTextModel", name := "clauseAt", desc := "(ZII)I" } : Jvm.MethodName), prog_9_method_46_code, 6, (Option.some FieldType.int))
abbrev m_M_node : MethodName × ByteArray × Nat × Option FieldType := (({ cls := "PolicyTextModel", name := "node", desc := "(II)I" } : Jvm.MethodName), prog_9_method_50_code, 3, (Option.some FieldType.int))
abbrev m_M_clause : MethodName × ByteArray × Nat × Option FieldType := (({ cls := "PolicyTextModel", name := "clause", desc := "(ZIII)I" } : Jvm.MethodName), prog_9_method_51_code, 7, (Option.some FieldType.int))
abbrev m_M_test : MethodName × ByteArray × Nat × Option FieldType := (({ cls := "PolicyTextModel", name := "test", desc := "(ZIIII)I" } : Jvm.MethodName), prog_9_method_53_code, 7, (Option.some FieldType.int))
abbrev m_M_testAt : MethodName × ByteArray × Nat × Option FieldType := (({ cls := "PolicyTextModel", name := "testAt", desc := "(ZIII)I" } : Jvm.MethodName), prog_9_method_52_code, 6, (Option.some FieldType.int))
abbrev m_M_than : MethodName × ByteArray × Nat × Option FieldType := (({ cls := "PolicyTextModel", name := "than", desc := "(ZIII)I" } : Jvm.MethodName), prog_9_method_54_code, 6, (Option.some FieldType.int))
abbrev m_M_call : MethodName × ByteArray × Nat × Option FieldType := (({ cls := "PolicyTextModel", name := "call", desc := "(IIII)Z" } : Jvm.MethodName), prog_9_method_56_code, 5, (Option.some FieldType.boolean))
abbrev m_M_holds : MethodName × ByteArray × Nat × Option FieldType := (({ cls := "PolicyTextModel", name := "holds", desc := "(ZII)Z" } : Jvm.MethodName), prog_9_method_57_code, 5, (Option.some FieldType.boolean))
abbrev m_M_ask : MethodName × ByteArray × Nat × Option FieldType := (({ cls := "PolicyTextModel", name := "ask", desc := "()V" } : Jvm.MethodName), prog_9_method_45_code, 2, (Option.none : Option FieldType))
abbrev m_M_isSo : MethodName × ByteArray × Nat × Option FieldType := (({ cls := "PolicyTextModel", name := "isSo", desc := "(ZII)Z" } : Jvm.MethodName), prog_9_method_55_code, 5, (Option.some FieldType.boolean))
abbrev m_M_hold : MethodName × ByteArray × Nat × Option FieldType := (({ cls := "PolicyTextModel", name := "hold", desc := "(III)Z" } : Jvm.MethodName), prog_9_method_43_code, 6, (Option.some FieldType.boolean))
abbrev m_M_isTrue : MethodName × ByteArray × Nat × Option FieldType := (({ cls := "PolicyTextModel", name := "isTrue", desc := "(II)Z" } : Jvm.MethodName), prog_9_method_42_code, 6, (Option.some FieldType.boolean))
abbrev m_M_make : MethodName × ByteArray × Nat × Option FieldType := (({ cls := "PolicyTextModel", name := "make", desc := "(I)I" } : Jvm.MethodName), prog_9_method_58_code, 6, (Option.some FieldType.int))
abbrev m_M_count : MethodName × ByteArray × Nat × Option FieldType := (({ cls := "PolicyTextModel", name := "count", desc := "([II)V" } : Jvm.MethodName), prog_9_method_44_code, 7, (Option.none : Option FieldType))
abbrev m_M_look : MethodName × ByteArray × Nat × Option FieldType := (({ cls := "PolicyTextModel", name := "look", desc := "(I)I" } : Jvm.MethodName), prog_9_method_59_code, 2, (Option.some FieldType.int))
def nJ : Nat := 49
def jOl : List (String × Nat × String) := [("PolicyText$Reader", 129, "node"), ("PolicyText$Reader", 135, "counter"), ("PolicyText$Tokens", 50, "counter"), ("PolicyText$Tokens", 56, "up"), ("PolicyText$Tokens", 58, "zero"), ("PolicyText$Tokens", 60, "node"), ("PolicyText$Tokens", 62, "go"), ("PolicyText$Tokens", 64, "arg"), ("PolicyText$Tokens", 66, "count"), ("PolicyText$Tokens", 68, "not"), ("PolicyText$Tokens", 70, "any"), ("PolicyText$Tokens", 72, "less"), ("PolicyText$Tokens", 74, "same"), ("PolicyText$Tokens", 76, "more"), ("PolicyText$Reader", 174, "go"), ("PolicyText$Reader", 176, "up"), ("PolicyText$Reader", 178, "zero"), ("PolicyText$Reader", 180, "any"), ("PolicyText$Reader", 196, "not"), ("PolicyText$Reader", 198, "arg"), ("PolicyText$Reader", 200, "count"), ("PolicyText$Printer", 23, "(counter "), ("PolicyText$Printer", 39, " "), ("PolicyText$Printer", 53, " (up "), ("PolicyText$Printer", 55, " (zero "), ("PolicyText$Printer", 72, "any"), ("PolicyText$Printer", 80, " (not "), ("PolicyText$Printer", 87, "(count "), ("PolicyText$Printer", 89, "(arg "), ("PolicyText$Printer", 91, " less "), ("PolicyText$Printer", 93, " same "), ("PolicyText$Printer", 95, " more "), ("PolicyText$Printer", 61, ")"), ("PolicyText$Printer", 85, ""), ("PolicyText$Printer", 63, ")\n"), ("PolicyText$Printer", 65, "(node "), ("PolicyText$Printer", 70, " (go "), ("PolicyTextModel", 201, "counter"), ("PolicyTextModel", 207, "up"), ("PolicyTextModel", 209, "zero"), ("PolicyTextModel", 211, "node"), ("PolicyTextModel", 213, "go"), ("PolicyTextModel", 215, "arg"), ("PolicyTextModel", 217, "count"), ("PolicyTextModel", 219, "not"), ("PolicyTextModel", 221, "any"), ("PolicyTextModel", 223, "less"), ("PolicyTextModel", 225, "same"), ("PolicyTextModel", 227, "more")]
def jSl : List (List Nat) := [[110, 111, 100, 101], [99, 111, 117, 110, 116, 101, 114], [99, 111, 117, 110, 116, 101, 114], [117, 112], [122, 101, 114, 111], [110, 111, 100, 101], [103, 111], [97, 114, 103], [99, 111, 117, 110, 116], [110, 111, 116], [97, 110, 121], [108, 101, 115, 115], [115, 97, 109, 101], [109, 111, 114, 101], [103, 111], [117, 112], [122, 101, 114, 111], [97, 110, 121], [110, 111, 116], [97, 114, 103], [99, 111, 117, 110, 116], [40, 99, 111, 117, 110, 116, 101, 114, 32], [32], [32, 40, 117, 112, 32], [32, 40, 122, 101, 114, 111, 32], [97, 110, 121], [32, 40, 110, 111, 116, 32], [40, 99, 111, 117, 110, 116, 32], [40, 97, 114, 103, 32], [32, 108, 101, 115, 115, 32], [32, 115, 97, 109, 101, 32], [32, 109, 111, 114, 101, 32], [41], [], [41, 10], [40, 110, 111, 100, 101, 32], [32, 40, 103, 111, 32], [99, 111, 117, 110, 116, 101, 114], [117, 112], [122, 101, 114, 111], [110, 111, 100, 101], [103, 111], [97, 114, 103], [99, 111, 117, 110, 116], [110, 111, 116], [97, 110, 121], [108, 101, 115, 115], [115, 97, 109, 101], [109, 111, 114, 101]]
def jO (j : Nat) : String × Nat × String := jOl.getD j ("", 0, "")
def jS (j : Nat) : List Nat := jSl.getD j []
