/-! ===== links, printed by a program of mine out of the Statement's words ===== -/
theorem sd_fl1 {own : String} {index ci j : Nat} {r : vw_C} (hr : sd_cl[ci]? = some r) (hj : j < r.2.2) (h : Cond.fieldLink own index (r.2.1 j).1 (r.2.1 j).2.1 (r.2.1 j).2.2.1 ∈ tables_1) : sd_fl own index ci j := ⟨r, hr, hj, Or.inl (sd_memT h rfl)⟩
theorem sd_fl2 {own : String} {index ci j : Nat} {r : vw_C} (host : String) (hr : sd_cl[ci]? = some r) (hj : j < r.2.2) (h : Cond.fieldLinkNest own index (r.2.1 j).1 (r.2.1 j).2.1 (r.2.1 j).2.2.1 host ∈ tables_1) : sd_fl own index ci j := ⟨r, hr, hj, Or.inr ⟨host, sd_nT h rfl⟩⟩
def mDK_init : sd_M := (⟨"SequentDesk", "<init>", "()V"⟩, prog_1_method_1_code, 1, none)
theorem mDK_init_c : Cond.code mDK_init.1 mDK_init.2.1 mDK_init.2.2.1 mDK_init.2.2.2 ∈ sd_tbl := (sd_memT (sd_in1 (List.mem_of_getElem? (i := 19) rfl)) rfl)
def mTS_init : sd_M := (⟨"SequentDesk$Terms", "<init>", "()V"⟩, prog_9_method_1_code, 2, none)
theorem mTS_init_c : Cond.code mTS_init.1 mTS_init.2.1 mTS_init.2.2.1 mTS_init.2.2.2 ∈ sd_tbl := (sd_memT (sd_in1 (List.mem_of_getElem? (i := 27) rfl)) rfl)
def mTM_init : sd_M := (⟨"SequentDesk$Term", "<init>", "()V"⟩, prog_8_method_1_code, 1, none)
theorem mTM_init_c : Cond.code mTM_init.1 mTM_init.2.1 mTM_init.2.2.1 mTM_init.2.2.2 ∈ sd_tbl := (sd_memT (sd_in1 (List.mem_of_getElem? (i := 34) rfl)) rfl)
def mDR_init : sd_M := (⟨"SequentDesk$Draft", "<init>", "()V"⟩, prog_2_method_1_code, 1, none)
theorem mDR_init_c : Cond.code mDR_init.1 mDR_init.2.1 mDR_init.2.2.1 mDR_init.2.2.2 ∈ sd_tbl := (sd_memT (sd_in1 (List.mem_of_getElem? (i := 95) rfl)) rfl)
def mIN_init : sd_M := (⟨"SequentDesk$Inference", "<init>", "()V"⟩, prog_5_method_1_code, 1, none)
theorem mIN_init_c : Cond.code mIN_init.1 mIN_init.2.1 mIN_init.2.2.1 mIN_init.2.2.2 ∈ sd_tbl := (sd_memT (sd_in1 (List.mem_of_getElem? (i := 114) rfl)) rfl)
def mRU_init : sd_M := (⟨"SequentDesk$Rules", "<init>", "(LSequentDesk$Terms;)V"⟩, prog_6_method_1_code, 3, none)
theorem mRU_init_c : Cond.code mRU_init.1 mRU_init.2.1 mRU_init.2.2.1 mRU_init.2.2.2 ∈ sd_tbl := (sd_memT (sd_in1 (List.mem_of_getElem? (i := 148) rfl)) rfl)
def mTH_init : sd_M := (⟨"SequentDesk$Theorem", "<init>", "()V"⟩, prog_10_method_1_code, 1, none)
theorem mTH_init_c : Cond.code mTH_init.1 mTH_init.2.1 mTH_init.2.2.1 mTH_init.2.2.2 ∈ sd_tbl := (sd_memT (sd_in1 (List.mem_of_getElem? (i := 155) rfl)) rfl)
def mST_init : sd_M := (⟨"SequentDesk$Statement", "<init>", "()V"⟩, prog_7_method_1_code, 1, none)
theorem mST_init_c : Cond.code mST_init.1 mST_init.2.1 mST_init.2.2.1 mST_init.2.2.2 ∈ sd_tbl := (sd_memT (sd_in1 (List.mem_of_getElem? (i := 161) rfl)) rfl)
def mGS_init : sd_M := (⟨"SequentDesk$Goals", "<init>", "(LSequentDesk$Terms;LSequentDesk$Rules;)V"⟩, prog_4_method_1_code, 4, none)
theorem mGS_init_c : Cond.code mGS_init.1 mGS_init.2.1 mGS_init.2.2.1 mGS_init.2.2.2 ∈ sd_tbl := (sd_memT (sd_in1 (List.mem_of_getElem? (i := 228) rfl)) rfl)
def mGL_init : sd_M := (⟨"SequentDesk$Goal", "<init>", "()V"⟩, prog_3_method_1_code, 1, none)
theorem mGL_init_c : Cond.code mGL_init.1 mGL_init.2.1 mGL_init.2.2.1 mGL_init.2.2.2 ∈ sd_tbl := (sd_memT (sd_in1 (List.mem_of_getElem? (i := 235) rfl)) rfl)
def mDK_function : sd_M := (⟨"SequentDesk", "function", "(II)I"⟩, prog_1_method_2_code, 4, (some Jvm.ClassFile.FieldType.int))
theorem mDK_function_c : Cond.code mDK_function.1 mDK_function.2.1 mDK_function.2.2.1 mDK_function.2.2.2 ∈ sd_tbl := (sd_memT (sd_in2 (List.mem_of_getElem? (i := 62) rfl)) rfl)
def mTY_isType : sd_M := (⟨"SequentDesk$Types", "isType", "(I)Z"⟩, prog_11_method_2_code, 2, (some Jvm.ClassFile.FieldType.boolean))
theorem mTY_isType_c : Cond.code mTY_isType.1 mTY_isType.2.1 mTY_isType.2.2.1 mTY_isType.2.2.2 ∈ sd_tbl := (sd_memT (sd_in2 (List.mem_of_getElem? (i := 65) rfl)) rfl)
def mTY_digits : sd_M := (⟨"SequentDesk$Types", "digits", "(I)I"⟩, prog_11_method_3_code, 2, (some Jvm.ClassFile.FieldType.int))
theorem mTY_digits_c : Cond.code mTY_digits.1 mTY_digits.2.1 mTY_digits.2.2.1 mTY_digits.2.2.2 ∈ sd_tbl := (sd_memT (sd_in2 (List.mem_of_getElem? (i := 68) rfl)) rfl)
def mTY_taken : sd_M := (⟨"SequentDesk$Types", "taken", "(II)I"⟩, prog_11_method_4_code, 5, (some Jvm.ClassFile.FieldType.int))
theorem mTY_taken_c : Cond.code mTY_taken.1 mTY_taken.2.1 mTY_taken.2.2.1 mTY_taken.2.2.2 ∈ sd_tbl := (sd_memT (sd_in2 (List.mem_of_getElem? (i := 71) rfl)) rfl)
def mTY_join : sd_M := (⟨"SequentDesk$Types", "join", "(II)I"⟩, prog_11_method_9_code, 4, (some Jvm.ClassFile.FieldType.int))
theorem mTY_join_c : Cond.code mTY_join.1 mTY_join.2.1 mTY_join.2.2.1 mTY_join.2.2.2 ∈ sd_tbl := (sd_memT (sd_in2 (List.mem_of_getElem? (i := 74) rfl)) rfl)
def mDK_declare : sd_M := (⟨"SequentDesk", "declare", "(II)I"⟩, prog_1_method_3_code, 4, (some Jvm.ClassFile.FieldType.int))
theorem mDK_declare_c : Cond.code mDK_declare.1 mDK_declare.2.1 mDK_declare.2.2.1 mDK_declare.2.2.2 ∈ sd_tbl := (sd_memT (sd_in2 (List.mem_of_getElem? (i := 78) rfl)) rfl)
def mDK_isName : sd_M := (⟨"SequentDesk", "isName", "(I)Z"⟩, prog_1_method_20_code, 1, (some Jvm.ClassFile.FieldType.boolean))
theorem mDK_isName_c : Cond.code mDK_isName.1 mDK_isName.2.1 mDK_isName.2.2.1 mDK_isName.2.2.2 ∈ sd_tbl := (sd_memT (sd_in2 (List.mem_of_getElem? (i := 81) rfl)) rfl)
def mDK_token : sd_M := (⟨"SequentDesk", "token", "(I)I"⟩, prog_1_method_4_code, 2, (some Jvm.ClassFile.FieldType.int))
theorem mDK_token_c : Cond.code mDK_token.1 mDK_token.2.1 mDK_token.2.2.1 mDK_token.2.2.2 ∈ sd_tbl := (sd_memT (sd_in2 (List.mem_of_getElem? (i := 85) rfl)) rfl)
def mDK_clear : sd_M := (⟨"SequentDesk", "clear", "()I"⟩, prog_1_method_5_code, 2, (some Jvm.ClassFile.FieldType.int))
theorem mDK_clear_c : Cond.code mDK_clear.1 mDK_clear.2.1 mDK_clear.2.2.1 mDK_clear.2.2.2 ∈ sd_tbl := (sd_memT (sd_in2 (List.mem_of_getElem? (i := 89) rfl)) rfl)
def mDK_read : sd_M := (⟨"SequentDesk", "read", "()I"⟩, prog_1_method_6_code, 5, (some Jvm.ClassFile.FieldType.int))
theorem mDK_read_c : Cond.code mDK_read.1 mDK_read.2.1 mDK_read.2.2.1 mDK_read.2.2.2 ∈ sd_tbl := (sd_memT (sd_in2 (List.mem_of_getElem? (i := 93) rfl)) rfl)
def mDR_isWhole : sd_M := (⟨"SequentDesk$Draft", "isWhole", "()Z"⟩, prog_2_method_2_code, 3, (some Jvm.ClassFile.FieldType.boolean))
theorem mDR_isWhole_c : Cond.code mDR_isWhole.1 mDR_isWhole.2.1 mDR_isWhole.2.2.1 mDR_isWhole.2.2.2 ∈ sd_tbl := (sd_memT (sd_in2 (List.mem_of_getElem? (i := 97) rfl)) rfl)
def mDR_symbolOf : sd_M := (⟨"SequentDesk$Draft", "symbolOf", "(I)I"⟩, prog_2_method_3_code, 1, (some Jvm.ClassFile.FieldType.int))
theorem mDR_symbolOf_c : Cond.code mDR_symbolOf.1 mDR_symbolOf.2.1 mDR_symbolOf.2.2.1 mDR_symbolOf.2.2.2 ∈ sd_tbl := (sd_memT (sd_in2 (List.mem_of_getElem? (i := 100) rfl)) rfl)
def mMA_min : sd_M := (⟨"java/lang/Math", "min", "(II)I"⟩, prog_15_method_69_code, 2, (some Jvm.ClassFile.FieldType.int))
theorem mMA_min_c : Cond.code mMA_min.1 mMA_min.2.1 mMA_min.2.2.1 mMA_min.2.2.2 ∈ sd_tbl := (sd_memT (sd_in2 (List.mem_of_getElem? (i := 103) rfl)) rfl)
def mTM_partsOf : sd_M := (⟨"SequentDesk$Term", "partsOf", "(I)I"⟩, prog_8_method_12_code, 1, (some Jvm.ClassFile.FieldType.int))
theorem mTM_partsOf_c : Cond.code mTM_partsOf.1 mTM_partsOf.2.1 mTM_partsOf.2.2.1 mTM_partsOf.2.2.2 ∈ sd_tbl := (sd_memT (sd_in2 (List.mem_of_getElem? (i := 106) rfl)) rfl)
def mTS_fresh : sd_M := (⟨"SequentDesk$Terms", "fresh", "()LSequentDesk$Term;"⟩, prog_9_method_4_code, 2, (some (Jvm.ClassFile.FieldType.object "SequentDesk$Term")))
theorem mTS_fresh_c : Cond.code mTS_fresh.1 mTS_fresh.2.1 mTS_fresh.2.2.1 mTS_fresh.2.2.2 ∈ sd_tbl := (sd_memT (sd_in2 (List.mem_of_getElem? (i := 110) rfl)) rfl)
def mTM_begin : sd_M := (⟨"SequentDesk$Term", "begin", "()V"⟩, prog_8_method_2_code, 1, none)
theorem mTM_begin_c : Cond.code mTM_begin.1 mTM_begin.2.1 mTM_begin.2.2.1 mTM_begin.2.2.2 ∈ sd_tbl := (sd_memT (sd_in2 (List.mem_of_getElem? (i := 115) rfl)) rfl)
def mDR_writeTo : sd_M := (⟨"SequentDesk$Draft", "writeTo", "(LSequentDesk$Term;)V"⟩, prog_2_method_4_code, 3, none)
theorem mDR_writeTo_c : Cond.code mDR_writeTo.1 mDR_writeTo.2.1 mDR_writeTo.2.2.1 mDR_writeTo.2.2.2 ∈ sd_tbl := (sd_memT (sd_in2 (List.mem_of_getElem? (i := 119) rfl)) rfl)
def mTM_add : sd_M := (⟨"SequentDesk$Term", "add", "(II)V"⟩, prog_8_method_3_code, 3, none)
theorem mTM_add_c : Cond.code mTM_add.1 mTM_add.2.1 mTM_add.2.2.1 mTM_add.2.2.2 ∈ sd_tbl := (sd_memT (sd_in2 (List.mem_of_getElem? (i := 123) rfl)) rfl)
def mTM_settle : sd_M := (⟨"SequentDesk$Term", "settle", "()V"⟩, prog_8_method_11_code, 4, none)
theorem mTM_settle_c : Cond.code mTM_settle.1 mTM_settle.2.1 mTM_settle.2.2.1 mTM_settle.2.2.2 ∈ sd_tbl := (sd_memT (sd_in2 (List.mem_of_getElem? (i := 127) rfl)) rfl)
def mDR_binderOf : sd_M := (⟨"SequentDesk$Draft", "binderOf", "(LSequentDesk$Term;I)I"⟩, prog_2_method_5_code, 4, (some Jvm.ClassFile.FieldType.int))
theorem mDR_binderOf_c : Cond.code mDR_binderOf.1 mDR_binderOf.2.1 mDR_binderOf.2.2.1 mDR_binderOf.2.2.2 ∈ sd_tbl := (sd_memT (sd_in2 (List.mem_of_getElem? (i := 133) rfl)) rfl)
def mTM_lambdasAround : sd_M := (⟨"SequentDesk$Term", "lambdasAround", "(II)I"⟩, prog_8_method_10_code, 5, (some Jvm.ClassFile.FieldType.int))
theorem mTM_lambdasAround_c : Cond.code mTM_lambdasAround.1 mTM_lambdasAround.2.1 mTM_lambdasAround.2.2.1 mTM_lambdasAround.2.2.2 ∈ sd_tbl := (sd_memT (sd_in2 (List.mem_of_getElem? (i := 137) rfl)) rfl)
def mIN_giveTypes : sd_M := (⟨"SequentDesk$Inference", "giveTypes", "(LSequentDesk$Term;[I[I)I"⟩, prog_5_method_2_code, 6, (some Jvm.ClassFile.FieldType.int))
theorem mIN_giveTypes_c : Cond.code mIN_giveTypes.1 mIN_giveTypes.2.1 mIN_giveTypes.2.2.1 mIN_giveTypes.2.2.2 ∈ sd_tbl := (sd_memT (sd_in2 (List.mem_of_getElem? (i := 141) rfl)) rfl)
def mIN_begin : sd_M := (⟨"SequentDesk$Inference", "begin", "()V"⟩, prog_5_method_3_code, 2, none)
theorem mIN_begin_c : Cond.code mIN_begin.1 mIN_begin.2.1 mIN_begin.2.2.1 mIN_begin.2.2.2 ∈ sd_tbl := (sd_memT (sd_in2 (List.mem_of_getElem? (i := 145) rfl)) rfl)
def mIN_variableOf : sd_M := (⟨"SequentDesk$Inference", "variableOf", "(I)I"⟩, prog_5_method_4_code, 1, (some Jvm.ClassFile.FieldType.int))
theorem mIN_variableOf_c : Cond.code mIN_variableOf.1 mIN_variableOf.2.1 mIN_variableOf.2.2.1 mIN_variableOf.2.2.2 ∈ sd_tbl := (sd_memT (sd_in2 (List.mem_of_getElem? (i := 148) rfl)) rfl)
def mIN_equate : sd_M := (⟨"SequentDesk$Inference", "equate", "(II)V"⟩, prog_5_method_6_code, 3, none)
theorem mIN_equate_c : Cond.code mIN_equate.1 mIN_equate.2.1 mIN_equate.2.2.1 mIN_equate.2.2.2 ∈ sd_tbl := (sd_memT (sd_in2 (List.mem_of_getElem? (i := 152) rfl)) rfl)
def mIN_demand : sd_M := (⟨"SequentDesk$Inference", "demand", "(LSequentDesk$Term;I[I)V"⟩, prog_5_method_5_code, 5, none)
theorem mIN_demand_c : Cond.code mIN_demand.1 mIN_demand.2.1 mIN_demand.2.2.1 mIN_demand.2.2.2 ∈ sd_tbl := (sd_memT (sd_in2 (List.mem_of_getElem? (i := 156) rfl)) rfl)
def mIN_functionNode : sd_M := (⟨"SequentDesk$Inference", "functionNode", "(II)I"⟩, prog_5_method_7_code, 4, (some Jvm.ClassFile.FieldType.int))
theorem mIN_functionNode_c : Cond.code mIN_functionNode.1 mIN_functionNode.2.1 mIN_functionNode.2.2.1 mIN_functionNode.2.2.2 ∈ sd_tbl := (sd_memT (sd_in2 (List.mem_of_getElem? (i := 160) rfl)) rfl)
def mIN_nodeOf : sd_M := (⟨"SequentDesk$Inference", "nodeOf", "(II)I"⟩, prog_5_method_8_code, 3, (some Jvm.ClassFile.FieldType.int))
theorem mIN_nodeOf_c : Cond.code mIN_nodeOf.1 mIN_nodeOf.2.1 mIN_nodeOf.2.2.1 mIN_nodeOf.2.2.2 ∈ sd_tbl := (sd_memT (sd_in2 (List.mem_of_getElem? (i := 166) rfl)) rfl)
def mTY_from : sd_M := (⟨"SequentDesk$Types", "from", "(I)I"⟩, prog_11_method_6_code, 3, (some Jvm.ClassFile.FieldType.int))
theorem mTY_from_c : Cond.code mTY_from.1 mTY_from.2.1 mTY_from.2.2.1 mTY_from.2.2.2 ∈ sd_tbl := (sd_memT (sd_in2 (List.mem_of_getElem? (i := 169) rfl)) rfl)
def mTY_lastDigits : sd_M := (⟨"SequentDesk$Types", "lastDigits", "(II)I"⟩, prog_11_method_8_code, 2, (some Jvm.ClassFile.FieldType.int))
theorem mTY_lastDigits_c : Cond.code mTY_lastDigits.1 mTY_lastDigits.2.1 mTY_lastDigits.2.2.1 mTY_lastDigits.2.2.2 ∈ sd_tbl := (sd_memT (sd_in2 (List.mem_of_getElem? (i := 172) rfl)) rfl)
def mTY_to : sd_M := (⟨"SequentDesk$Types", "to", "(I)I"⟩, prog_11_method_7_code, 2, (some Jvm.ClassFile.FieldType.int))
theorem mTY_to_c : Cond.code mTY_to.1 mTY_to.2.1 mTY_to.2.2.1 mTY_to.2.2.2 ∈ sd_tbl := (sd_memT (sd_in2 (List.mem_of_getElem? (i := 175) rfl)) rfl)
def mIN_solve : sd_M := (⟨"SequentDesk$Inference", "solve", "()Z"⟩, prog_5_method_10_code, 4, (some Jvm.ClassFile.FieldType.boolean))
theorem mIN_solve_c : Cond.code mIN_solve.1 mIN_solve.2.1 mIN_solve.2.2.1 mIN_solve.2.2.2 ∈ sd_tbl := (sd_memT (sd_in2 (List.mem_of_getElem? (i := 179) rfl)) rfl)
def mIN_root : sd_M := (⟨"SequentDesk$Inference", "root", "(I)I"⟩, prog_5_method_9_code, 4, (some Jvm.ClassFile.FieldType.int))
theorem mIN_root_c : Cond.code mIN_root.1 mIN_root.2.1 mIN_root.2.2.1 mIN_root.2.2.2 ∈ sd_tbl := (sd_memT (sd_in2 (List.mem_of_getElem? (i := 183) rfl)) rfl)
def mIN_workOut : sd_M := (⟨"SequentDesk$Inference", "workOut", "()V"⟩, prog_5_method_11_code, 4, none)
theorem mIN_workOut_c : Cond.code mIN_workOut.1 mIN_workOut.2.1 mIN_workOut.2.2.1 mIN_workOut.2.2.2 ∈ sd_tbl := (sd_memT (sd_in2 (List.mem_of_getElem? (i := 187) rfl)) rfl)
def mIN_typeOf : sd_M := (⟨"SequentDesk$Inference", "typeOf", "(I)I"⟩, prog_5_method_12_code, 4, (some Jvm.ClassFile.FieldType.int))
theorem mIN_typeOf_c : Cond.code mIN_typeOf.1 mIN_typeOf.2.1 mIN_typeOf.2.2.1 mIN_typeOf.2.2.2 ∈ sd_tbl := (sd_memT (sd_in2 (List.mem_of_getElem? (i := 191) rfl)) rfl)
def mIN_firstRefusal : sd_M := (⟨"SequentDesk$Inference", "firstRefusal", "()I"⟩, prog_5_method_13_code, 3, (some Jvm.ClassFile.FieldType.int))
theorem mIN_firstRefusal_c : Cond.code mIN_firstRefusal.1 mIN_firstRefusal.2.1 mIN_firstRefusal.2.2.1 mIN_firstRefusal.2.2.2 ∈ sd_tbl := (sd_memT (sd_in2 (List.mem_of_getElem? (i := 196) rfl)) rfl)
def mTS_keep : sd_M := (⟨"SequentDesk$Terms", "keep", "()I"⟩, prog_9_method_5_code, 3, (some Jvm.ClassFile.FieldType.int))
theorem mTS_keep_c : Cond.code mTS_keep.1 mTS_keep.2.1 mTS_keep.2.2.1 mTS_keep.2.2.2 ∈ sd_tbl := (sd_memT (sd_in2 (List.mem_of_getElem? (i := 200) rfl)) rfl)
def mTM_alike : sd_M := (⟨"SequentDesk$Term", "alike", "(LSequentDesk$Term;ILSequentDesk$Term;I)Z"⟩, prog_8_method_13_code, 6, (some Jvm.ClassFile.FieldType.boolean))
theorem mTM_alike_c : Cond.code mTM_alike.1 mTM_alike.2.1 mTM_alike.2.2.1 mTM_alike.2.2.2 ∈ sd_tbl := (sd_memT (sd_in2 (List.mem_of_getElem? (i := 204) rfl)) rfl)
def mTS_overfull : sd_M := (⟨"SequentDesk$Terms", "overfull", "()Z"⟩, prog_9_method_3_code, 1, (some Jvm.ClassFile.FieldType.boolean))
theorem mTS_overfull_c : Cond.code mTS_overfull.1 mTS_overfull.2.1 mTS_overfull.2.2.1 mTS_overfull.2.2.2 ∈ sd_tbl := (sd_memT (sd_in2 (List.mem_of_getElem? (i := 208) rfl)) rfl)
def mDK_term : sd_M := (⟨"SequentDesk", "term", "(II)I"⟩, prog_1_method_7_code, 4, (some Jvm.ClassFile.FieldType.int))
theorem mDK_term_c : Cond.code mDK_term.1 mDK_term.2.1 mDK_term.2.2.1 mDK_term.2.2.2 ∈ sd_tbl := (sd_memT (sd_in2 (List.mem_of_getElem? (i := 212) rfl)) rfl)
def mTS_has : sd_M := (⟨"SequentDesk$Terms", "has", "(I)Z"⟩, prog_9_method_2_code, 2, (some Jvm.ClassFile.FieldType.boolean))
theorem mTS_has_c : Cond.code mTS_has.1 mTS_has.2.1 mTS_has.2.2.1 mTS_has.2.2.2 ∈ sd_tbl := (sd_memT (sd_in2 (List.mem_of_getElem? (i := 216) rfl)) rfl)
def mTM_names : sd_M := (⟨"SequentDesk$Term", "names", "()I"⟩, prog_8_method_17_code, 3, (some Jvm.ClassFile.FieldType.int))
theorem mTM_names_c : Cond.code mTM_names.1 mTM_names.2.1 mTM_names.2.2.1 mTM_names.2.2.2 ∈ sd_tbl := (sd_memT (sd_in2 (List.mem_of_getElem? (i := 220) rfl)) rfl)
def mTM_deepness : sd_M := (⟨"SequentDesk$Term", "deepness", "()I"⟩, prog_8_method_19_code, 5, (some Jvm.ClassFile.FieldType.int))
theorem mTM_deepness_c : Cond.code mTM_deepness.1 mTM_deepness.2.1 mTM_deepness.2.2.1 mTM_deepness.2.2.2 ∈ sd_tbl := (sd_memT (sd_in2 (List.mem_of_getElem? (i := 224) rfl)) rfl)
def mMA_max : sd_M := (⟨"java/lang/Math", "max", "(II)I"⟩, prog_15_method_65_code, 2, (some Jvm.ClassFile.FieldType.int))
theorem mMA_max_c : Cond.code mMA_max.1 mMA_max.2.1 mMA_max.2.2.1 mMA_max.2.2.2 ∈ sd_tbl := (sd_memT (sd_in2 (List.mem_of_getElem? (i := 227) rfl)) rfl)
def mDK_symbol : sd_M := (⟨"SequentDesk", "symbol", "(III)I"⟩, prog_1_method_8_code, 4, (some Jvm.ClassFile.FieldType.int))
theorem mDK_symbol_c : Cond.code mDK_symbol.1 mDK_symbol.2.1 mDK_symbol.2.2.1 mDK_symbol.2.2.2 ∈ sd_tbl := (sd_memT (sd_in2 (List.mem_of_getElem? (i := 231) rfl)) rfl)
def mDK_rule : sd_M := (⟨"SequentDesk", "rule", "(IIII)I"⟩, prog_1_method_9_code, 5, (some Jvm.ClassFile.FieldType.int))
theorem mDK_rule_c : Cond.code mDK_rule.1 mDK_rule.2.1 mDK_rule.2.2.1 mDK_rule.2.2.2 ∈ sd_tbl := (sd_memT (sd_in2 (List.mem_of_getElem? (i := 235) rfl)) rfl)
def mRU_make : sd_M := (⟨"SequentDesk$Rules", "make", "(IIII)I"⟩, prog_6_method_3_code, 7, (some Jvm.ClassFile.FieldType.int))
theorem mRU_make_c : Cond.code mRU_make.1 mRU_make.2.1 mRU_make.2.2.1 mRU_make.2.2.2 ∈ sd_tbl := (sd_memT (sd_in2 (List.mem_of_getElem? (i := 239) rfl)) rfl)
def mRU_areThere : sd_M := (⟨"SequentDesk$Rules", "areThere", "(IIII)Z"⟩, prog_6_method_4_code, 5, (some Jvm.ClassFile.FieldType.boolean))
theorem mRU_areThere_c : Cond.code mRU_areThere.1 mRU_areThere.2.1 mRU_areThere.2.2.1 mRU_areThere.2.2.2 ∈ sd_tbl := (sd_memT (sd_in3 (List.mem_of_getElem? (i := 3) rfl)) rfl)
def mRU_has : sd_M := (⟨"SequentDesk$Rules", "has", "(I)Z"⟩, prog_6_method_2_code, 2, (some Jvm.ClassFile.FieldType.boolean))
theorem mRU_has_c : Cond.code mRU_has.1 mRU_has.2.1 mRU_has.2.2.1 mRU_has.2.2.2 ∈ sd_tbl := (sd_memT (sd_in3 (List.mem_of_getElem? (i := 8) rfl)) rfl)
def mRU_fit : sd_M := (⟨"SequentDesk$Rules", "fit", "(IIII)Z"⟩, prog_6_method_6_code, 5, (some Jvm.ClassFile.FieldType.boolean))
theorem mRU_fit_c : Cond.code mRU_fit.1 mRU_fit.2.1 mRU_fit.2.2.1 mRU_fit.2.2.2 ∈ sd_tbl := (sd_memT (sd_in3 (List.mem_of_getElem? (i := 13) rfl)) rfl)
def mRU_conclusionOf : sd_M := (⟨"SequentDesk$Rules", "conclusionOf", "(I)LSequentDesk$Term;"⟩, prog_6_method_5_code, 2, (some (Jvm.ClassFile.FieldType.object "SequentDesk$Term")))
theorem mRU_conclusionOf_c : Cond.code mRU_conclusionOf.1 mRU_conclusionOf.2.1 mRU_conclusionOf.2.2.1 mRU_conclusionOf.2.2.2 ∈ sd_tbl := (sd_memT (sd_in3 (List.mem_of_getElem? (i := 17) rfl)) rfl)
def mRU_canChain : sd_M := (⟨"SequentDesk$Rules", "canChain", "(LSequentDesk$Term;LSequentDesk$Term;)Z"⟩, prog_6_method_7_code, 2, (some Jvm.ClassFile.FieldType.boolean))
theorem mRU_canChain_c : Cond.code mRU_canChain.1 mRU_canChain.2.1 mRU_canChain.2.2.1 mRU_canChain.2.2.2 ∈ sd_tbl := (sd_memT (sd_in3 (List.mem_of_getElem? (i := 20) rfl)) rfl)
def mTM_isEquation : sd_M := (⟨"SequentDesk$Term", "isEquation", "()Z"⟩, prog_8_method_14_code, 1, (some Jvm.ClassFile.FieldType.boolean))
theorem mTM_isEquation_c : Cond.code mTM_isEquation.1 mTM_isEquation.2.1 mTM_isEquation.2.2.1 mTM_isEquation.2.2.2 ∈ sd_tbl := (sd_memT (sd_in3 (List.mem_of_getElem? (i := 24) rfl)) rfl)
def mTM_right : sd_M := (⟨"SequentDesk$Term", "right", "()I"⟩, prog_8_method_15_code, 1, (some Jvm.ClassFile.FieldType.int))
theorem mTM_right_c : Cond.code mTM_right.1 mTM_right.2.1 mTM_right.2.2.1 mTM_right.2.2.2 ∈ sd_tbl := (sd_memT (sd_in3 (List.mem_of_getElem? (i := 28) rfl)) rfl)
def mRU_canCombine : sd_M := (⟨"SequentDesk$Rules", "canCombine", "(LSequentDesk$Term;LSequentDesk$Term;)Z"⟩, prog_6_method_8_code, 2, (some Jvm.ClassFile.FieldType.boolean))
theorem mRU_canCombine_c : Cond.code mRU_canCombine.1 mRU_canCombine.2.1 mRU_canCombine.2.2.1 mRU_canCombine.2.2.2 ∈ sd_tbl := (sd_memT (sd_in3 (List.mem_of_getElem? (i := 32) rfl)) rfl)
def mTY_isFunction : sd_M := (⟨"SequentDesk$Types", "isFunction", "(I)Z"⟩, prog_11_method_5_code, 1, (some Jvm.ClassFile.FieldType.boolean))
theorem mTY_isFunction_c : Cond.code mTY_isFunction.1 mTY_isFunction.2.1 mTY_isFunction.2.2.1 mTY_isFunction.2.2.2 ∈ sd_tbl := (sd_memT (sd_in3 (List.mem_of_getElem? (i := 35) rfl)) rfl)
def mTS_inHypotheses : sd_M := (⟨"SequentDesk$Terms", "inHypotheses", "(ILSequentDesk$Statement;)Z"⟩, prog_9_method_9_code, 4, (some Jvm.ClassFile.FieldType.boolean))
theorem mTS_inHypotheses_c : Cond.code mTS_inHypotheses.1 mTS_inHypotheses.2.1 mTS_inHypotheses.2.2.1 mTS_inHypotheses.2.2.2 ∈ sd_tbl := (sd_memT (sd_in3 (List.mem_of_getElem? (i := 40) rfl)) rfl)
def mTM_hasName : sd_M := (⟨"SequentDesk$Term", "hasName", "(I)Z"⟩, prog_8_method_18_code, 2, (some Jvm.ClassFile.FieldType.boolean))
theorem mTM_hasName_c : Cond.code mTM_hasName.1 mTM_hasName.2.1 mTM_hasName.2.2.1 mTM_hasName.2.2.2 ∈ sd_tbl := (sd_memT (sd_in3 (List.mem_of_getElem? (i := 44) rfl)) rfl)
def mTM_isRedex : sd_M := (⟨"SequentDesk$Term", "isRedex", "(I)Z"⟩, prog_8_method_16_code, 2, (some Jvm.ClassFile.FieldType.boolean))
theorem mTM_isRedex_c : Cond.code mTM_isRedex.1 mTM_isRedex.2.1 mTM_isRedex.2.2.1 mTM_isRedex.2.2.2 ∈ sd_tbl := (sd_memT (sd_in3 (List.mem_of_getElem? (i := 49) rfl)) rfl)
def mRU_canPass : sd_M := (⟨"SequentDesk$Rules", "canPass", "(LSequentDesk$Term;LSequentDesk$Term;)Z"⟩, prog_6_method_9_code, 2, (some Jvm.ClassFile.FieldType.boolean))
theorem mRU_canPass_c : Cond.code mRU_canPass.1 mRU_canPass.2.1 mRU_canPass.2.2.1 mRU_canPass.2.2.2 ∈ sd_tbl := (sd_memT (sd_in3 (List.mem_of_getElem? (i := 52) rfl)) rfl)
def mRU_write : sd_M := (⟨"SequentDesk$Rules", "write", "(IIII)V"⟩, prog_6_method_10_code, 8, none)
theorem mRU_write_c : Cond.code mRU_write.1 mRU_write.2.1 mRU_write.2.2.1 mRU_write.2.2.2 ∈ sd_tbl := (sd_memT (sd_in3 (List.mem_of_getElem? (i := 56) rfl)) rfl)
def mRU_begin : sd_M := (⟨"SequentDesk$Rules", "begin", "(III)V"⟩, prog_6_method_11_code, 5, none)
theorem mRU_begin_c : Cond.code mRU_begin.1 mRU_begin.2.1 mRU_begin.2.2.1 mRU_begin.2.2.2 ∈ sd_tbl := (sd_memT (sd_in3 (List.mem_of_getElem? (i := 62) rfl)) rfl)
def mST_begin : sd_M := (⟨"SequentDesk$Statement", "begin", "()V"⟩, prog_7_method_2_code, 1, none)
theorem mST_begin_c : Cond.code mST_begin.1 mST_begin.2.1 mST_begin.2.2.1 mST_begin.2.2.2 ∈ sd_tbl := (sd_memT (sd_in3 (List.mem_of_getElem? (i := 66) rfl)) rfl)
def mRU_replaceHypotheses : sd_M := (⟨"SequentDesk$Rules", "replaceHypotheses", "(LSequentDesk$Statement;LSequentDesk$Statement;II)V"⟩, prog_6_method_12_code, 6, none)
theorem mRU_replaceHypotheses_c : Cond.code mRU_replaceHypotheses.1 mRU_replaceHypotheses.2.1 mRU_replaceHypotheses.2.2.1 mRU_replaceHypotheses.2.2.2 ∈ sd_tbl := (sd_memT (sd_in3 (List.mem_of_getElem? (i := 70) rfl)) rfl)
def mTM_addReplaced : sd_M := (⟨"SequentDesk$Term", "addReplaced", "(LSequentDesk$Term;ILSequentDesk$Term;)V"⟩, prog_8_method_9_code, 5, none)
theorem mTM_addReplaced_c : Cond.code mTM_addReplaced.1 mTM_addReplaced.2.1 mTM_addReplaced.2.2.1 mTM_addReplaced.2.2.2 ∈ sd_tbl := (sd_memT (sd_in3 (List.mem_of_getElem? (i := 75) rfl)) rfl)
def mTM_addPart : sd_M := (⟨"SequentDesk$Term", "addPart", "(LSequentDesk$Term;I)V"⟩, prog_8_method_4_code, 5, none)
theorem mTM_addPart_c : Cond.code mTM_addPart.1 mTM_addPart.2.1 mTM_addPart.2.2.1 mTM_addPart.2.2.2 ∈ sd_tbl := (sd_memT (sd_in3 (List.mem_of_getElem? (i := 79) rfl)) rfl)
def mST_assume : sd_M := (⟨"SequentDesk$Statement", "assume", "(I)V"⟩, prog_7_method_3_code, 2, none)
theorem mST_assume_c : Cond.code mST_assume.1 mST_assume.2.1 mST_assume.2.2.1 mST_assume.2.2.2 ∈ sd_tbl := (sd_memT (sd_in3 (List.mem_of_getElem? (i := 85) rfl)) rfl)
def mST_assumes : sd_M := (⟨"SequentDesk$Statement", "assumes", "(I)Z"⟩, prog_7_method_7_code, 3, (some Jvm.ClassFile.FieldType.boolean))
theorem mST_assumes_c : Cond.code mST_assumes.1 mST_assumes.2.1 mST_assumes.2.2.1 mST_assumes.2.2.2 ∈ sd_tbl := (sd_memT (sd_in3 (List.mem_of_getElem? (i := 89) rfl)) rfl)
def mRU_writeConclusion : sd_M := (⟨"SequentDesk$Rules", "writeConclusion", "(LSequentDesk$Term;IIII)V"⟩, prog_6_method_13_code, 6, none)
theorem mRU_writeConclusion_c : Cond.code mRU_writeConclusion.1 mRU_writeConclusion.2.1 mRU_writeConclusion.2.2.1 mRU_writeConclusion.2.2.2 ∈ sd_tbl := (sd_memT (sd_in3 (List.mem_of_getElem? (i := 93) rfl)) rfl)
def mTM_addEquation : sd_M := (⟨"SequentDesk$Term", "addEquation", "(LSequentDesk$Term;ILSequentDesk$Term;I)V"⟩, prog_8_method_5_code, 5, none)
theorem mTM_addEquation_c : Cond.code mTM_addEquation.1 mTM_addEquation.2.1 mTM_addEquation.2.2.1 mTM_addEquation.2.2.2 ∈ sd_tbl := (sd_memT (sd_in3 (List.mem_of_getElem? (i := 97) rfl)) rfl)
def mRU_writeCombined : sd_M := (⟨"SequentDesk$Rules", "writeCombined", "(LSequentDesk$Term;LSequentDesk$Term;LSequentDesk$Term;)V"⟩, prog_6_method_14_code, 4, none)
theorem mRU_writeCombined_c : Cond.code mRU_writeCombined.1 mRU_writeCombined.2.1 mRU_writeCombined.2.2.1 mRU_writeCombined.2.2.2 ∈ sd_tbl := (sd_memT (sd_in3 (List.mem_of_getElem? (i := 101) rfl)) rfl)
def mTM_addUse : sd_M := (⟨"SequentDesk$Term", "addUse", "(ILSequentDesk$Term;ILSequentDesk$Term;I)V"⟩, prog_8_method_6_code, 6, none)
theorem mTM_addUse_c : Cond.code mTM_addUse.1 mTM_addUse.2.1 mTM_addUse.2.2.1 mTM_addUse.2.2.2 ∈ sd_tbl := (sd_memT (sd_in3 (List.mem_of_getElem? (i := 107) rfl)) rfl)
def mRU_writeAbstracted : sd_M := (⟨"SequentDesk$Rules", "writeAbstracted", "(LSequentDesk$Term;LSequentDesk$Term;I)V"⟩, prog_6_method_15_code, 5, none)
theorem mRU_writeAbstracted_c : Cond.code mRU_writeAbstracted.1 mRU_writeAbstracted.2.1 mRU_writeAbstracted.2.2.1 mRU_writeAbstracted.2.2.2 ∈ sd_tbl := (sd_memT (sd_in3 (List.mem_of_getElem? (i := 111) rfl)) rfl)
def mTM_addLambda : sd_M := (⟨"SequentDesk$Term", "addLambda", "(ILSequentDesk$Term;II)V"⟩, prog_8_method_7_code, 7, none)
theorem mTM_addLambda_c : Cond.code mTM_addLambda.1 mTM_addLambda.2.1 mTM_addLambda.2.2.1 mTM_addLambda.2.2.2 ∈ sd_tbl := (sd_memT (sd_in3 (List.mem_of_getElem? (i := 116) rfl)) rfl)
def mRU_writeReduced : sd_M := (⟨"SequentDesk$Rules", "writeReduced", "(LSequentDesk$Term;LSequentDesk$Term;)V"⟩, prog_6_method_16_code, 2, none)
theorem mRU_writeReduced_c : Cond.code mRU_writeReduced.1 mRU_writeReduced.2.1 mRU_writeReduced.2.2.1 mRU_writeReduced.2.2.2 ∈ sd_tbl := (sd_memT (sd_in3 (List.mem_of_getElem? (i := 120) rfl)) rfl)
def mTM_addFilled : sd_M := (⟨"SequentDesk$Term", "addFilled", "(LSequentDesk$Term;ILSequentDesk$Term;I)V"⟩, prog_8_method_8_code, 6, none)
theorem mTM_addFilled_c : Cond.code mTM_addFilled.1 mTM_addFilled.2.1 mTM_addFilled.2.2.1 mTM_addFilled.2.2.2 ∈ sd_tbl := (sd_memT (sd_in3 (List.mem_of_getElem? (i := 124) rfl)) rfl)
def mST_conclude : sd_M := (⟨"SequentDesk$Statement", "conclude", "(I)V"⟩, prog_7_method_6_code, 2, none)
theorem mST_conclude_c : Cond.code mST_conclude.1 mST_conclude.2.1 mST_conclude.2.2.1 mST_conclude.2.2.2 ∈ sd_tbl := (sd_memT (sd_in3 (List.mem_of_getElem? (i := 128) rfl)) rfl)
def mRU_gather : sd_M := (⟨"SequentDesk$Rules", "gather", "(III)V"⟩, prog_6_method_17_code, 5, none)
theorem mRU_gather_c : Cond.code mRU_gather.1 mRU_gather.2.1 mRU_gather.2.2.1 mRU_gather.2.2.2 ∈ sd_tbl := (sd_memT (sd_in3 (List.mem_of_getElem? (i := 132) rfl)) rfl)
def mST_assumeThoseBut : sd_M := (⟨"SequentDesk$Statement", "assumeThoseBut", "(LSequentDesk$Statement;I)V"⟩, prog_7_method_5_code, 4, none)
theorem mST_assumeThoseBut_c : Cond.code mST_assumeThoseBut.1 mST_assumeThoseBut.2.1 mST_assumeThoseBut.2.2.1 mST_assumeThoseBut.2.2.2 ∈ sd_tbl := (sd_memT (sd_in3 (List.mem_of_getElem? (i := 136) rfl)) rfl)
def mST_assumeThoseOf : sd_M := (⟨"SequentDesk$Statement", "assumeThoseOf", "(LSequentDesk$Statement;)V"⟩, prog_7_method_4_code, 3, none)
theorem mST_assumeThoseOf_c : Cond.code mST_assumeThoseOf.1 mST_assumeThoseOf.2.1 mST_assumeThoseOf.2.2.1 mST_assumeThoseOf.2.2.2 ∈ sd_tbl := (sd_memT (sd_in3 (List.mem_of_getElem? (i := 141) rfl)) rfl)
def mDK_theorem : sd_M := (⟨"SequentDesk", "theorem", "(II)I"⟩, prog_1_method_10_code, 4, (some Jvm.ClassFile.FieldType.int))
theorem mDK_theorem_c : Cond.code mDK_theorem.1 mDK_theorem.2.1 mDK_theorem.2.2.1 mDK_theorem.2.2.2 ∈ sd_tbl := (sd_memT (sd_in3 (List.mem_of_getElem? (i := 146) rfl)) rfl)
def mLO_bitCount : sd_M := (⟨"java/lang/Long", "bitCount", "(J)I"⟩, prog_14_method_50_code, 2, (some Jvm.ClassFile.FieldType.int))
theorem mLO_bitCount_c : Cond.code mLO_bitCount.1 mLO_bitCount.2.1 mLO_bitCount.2.2.1 mLO_bitCount.2.2.2 ∈ sd_tbl := (sd_memT (sd_in3 (List.mem_of_getElem? (i := 150) rfl)) rfl)
def mDK_hypothesis : sd_M := (⟨"SequentDesk", "hypothesis", "(II)I"⟩, prog_1_method_11_code, 3, (some Jvm.ClassFile.FieldType.int))
theorem mDK_hypothesis_c : Cond.code mDK_hypothesis.1 mDK_hypothesis.2.1 mDK_hypothesis.2.2.1 mDK_hypothesis.2.2.2 ∈ sd_tbl := (sd_memT (sd_in3 (List.mem_of_getElem? (i := 157) rfl)) rfl)
def mDK_goal : sd_M := (⟨"SequentDesk", "goal", "(I)I"⟩, prog_1_method_12_code, 2, (some Jvm.ClassFile.FieldType.int))
theorem mDK_goal_c : Cond.code mDK_goal.1 mDK_goal.2.1 mDK_goal.2.2.1 mDK_goal.2.2.2 ∈ sd_tbl := (sd_memT (sd_in3 (List.mem_of_getElem? (i := 161) rfl)) rfl)
def mGS_beginWith : sd_M := (⟨"SequentDesk$Goals", "beginWith", "(I)V"⟩, prog_4_method_3_code, 2, none)
theorem mGS_beginWith_c : Cond.code mGS_beginWith.1 mGS_beginWith.2.1 mGS_beginWith.2.2.1 mGS_beginWith.2.2.2 ∈ sd_tbl := (sd_memT (sd_in3 (List.mem_of_getElem? (i := 165) rfl)) rfl)
def mGS_drop : sd_M := (⟨"SequentDesk$Goals", "drop", "()V"⟩, prog_4_method_2_code, 1, none)
theorem mGS_drop_c : Cond.code mGS_drop.1 mGS_drop.2.1 mGS_drop.2.2.1 mGS_drop.2.2.2 ∈ sd_tbl := (sd_memT (sd_in3 (List.mem_of_getElem? (i := 169) rfl)) rfl)
def mDK_tactic : sd_M := (⟨"SequentDesk", "tactic", "(II)I"⟩, prog_1_method_13_code, 3, (some Jvm.ClassFile.FieldType.int))
theorem mDK_tactic_c : Cond.code mDK_tactic.1 mDK_tactic.2.1 mDK_tactic.2.2.1 mDK_tactic.2.2.2 ∈ sd_tbl := (sd_memT (sd_in3 (List.mem_of_getElem? (i := 175) rfl)) rfl)
def mGS_attempt : sd_M := (⟨"SequentDesk$Goals", "attempt", "(II)I"⟩, prog_4_method_5_code, 6, (some Jvm.ClassFile.FieldType.int))
theorem mGS_attempt_c : Cond.code mGS_attempt.1 mGS_attempt.2.1 mGS_attempt.2.2.1 mGS_attempt.2.2.2 ∈ sd_tbl := (sd_memT (sd_in3 (List.mem_of_getElem? (i := 179) rfl)) rfl)
def mGS_isThere : sd_M := (⟨"SequentDesk$Goals", "isThere", "(II)Z"⟩, prog_4_method_6_code, 3, (some Jvm.ClassFile.FieldType.boolean))
theorem mGS_isThere_c : Cond.code mGS_isThere.1 mGS_isThere.2.1 mGS_isThere.2.2.1 mGS_isThere.2.2.2 ∈ sd_tbl := (sd_memT (sd_in3 (List.mem_of_getElem? (i := 183) rfl)) rfl)
def mGS_openGoal : sd_M := (⟨"SequentDesk$Goals", "openGoal", "(I)LSequentDesk$Goal;"⟩, prog_4_method_4_code, 2, (some (Jvm.ClassFile.FieldType.object "SequentDesk$Goal")))
theorem mGS_openGoal_c : Cond.code mGS_openGoal.1 mGS_openGoal.2.1 mGS_openGoal.2.2.1 mGS_openGoal.2.2.2 ∈ sd_tbl := (sd_memT (sd_in3 (List.mem_of_getElem? (i := 190) rfl)) rfl)
def mGS_fits : sd_M := (⟨"SequentDesk$Goals", "fits", "(IILSequentDesk$Statement;)Z"⟩, prog_4_method_7_code, 5, (some Jvm.ClassFile.FieldType.boolean))
theorem mGS_fits_c : Cond.code mGS_fits.1 mGS_fits.2.1 mGS_fits.2.2.1 mGS_fits.2.2.2 ∈ sd_tbl := (sd_memT (sd_in3 (List.mem_of_getElem? (i := 194) rfl)) rfl)
def mGS_canSplit : sd_M := (⟨"SequentDesk$Goals", "canSplit", "(LSequentDesk$Term;)Z"⟩, prog_4_method_8_code, 2, (some Jvm.ClassFile.FieldType.boolean))
theorem mGS_canSplit_c : Cond.code mGS_canSplit.1 mGS_canSplit.2.1 mGS_canSplit.2.2.1 mGS_canSplit.2.2.2 ∈ sd_tbl := (sd_memT (sd_in3 (List.mem_of_getElem? (i := 201) rfl)) rfl)
def mGS_canName : sd_M := (⟨"SequentDesk$Goals", "canName", "(LSequentDesk$Term;ILSequentDesk$Statement;)Z"⟩, prog_4_method_9_code, 4, (some Jvm.ClassFile.FieldType.boolean))
theorem mGS_canName_c : Cond.code mGS_canName.1 mGS_canName.2.1 mGS_canName.2.2.1 mGS_canName.2.2.2 ∈ sd_tbl := (sd_memT (sd_in3 (List.mem_of_getElem? (i := 205) rfl)) rfl)
def mGS_isReduced : sd_M := (⟨"SequentDesk$Goals", "isReduced", "(LSequentDesk$Term;)Z"⟩, prog_4_method_10_code, 3, (some Jvm.ClassFile.FieldType.boolean))
theorem mGS_isReduced_c : Cond.code mGS_isReduced.1 mGS_isReduced.2.1 mGS_isReduced.2.2.1 mGS_isReduced.2.2.2 ∈ sd_tbl := (sd_memT (sd_in3 (List.mem_of_getElem? (i := 213) rfl)) rfl)
def mGS_isExact : sd_M := (⟨"SequentDesk$Goals", "isExact", "(LSequentDesk$Statement;LSequentDesk$Statement;)Z"⟩, prog_4_method_11_code, 2, (some Jvm.ClassFile.FieldType.boolean))
theorem mGS_isExact_c : Cond.code mGS_isExact.1 mGS_isExact.2.1 mGS_isExact.2.2.1 mGS_isExact.2.2.2 ∈ sd_tbl := (sd_memT (sd_in3 (List.mem_of_getElem? (i := 219) rfl)) rfl)
def mST_assumesThoseOf : sd_M := (⟨"SequentDesk$Statement", "assumesThoseOf", "(LSequentDesk$Statement;)Z"⟩, prog_7_method_8_code, 3, (some Jvm.ClassFile.FieldType.boolean))
theorem mST_assumesThoseOf_c : Cond.code mST_assumesThoseOf.1 mST_assumesThoseOf.2.1 mST_assumesThoseOf.2.2.1 mST_assumesThoseOf.2.2.2 ∈ sd_tbl := (sd_memT (sd_in3 (List.mem_of_getElem? (i := 223) rfl)) rfl)
def mGS_leave : sd_M := (⟨"SequentDesk$Goals", "leave", "(IILSequentDesk$Statement;)V"⟩, prog_4_method_12_code, 8, none)
theorem mGS_leave_c : Cond.code mGS_leave.1 mGS_leave.2.1 mGS_leave.2.2.1 mGS_leave.2.2.2 ∈ sd_tbl := (sd_memT (sd_in3 (List.mem_of_getElem? (i := 227) rfl)) rfl)
def mGS_heir : sd_M := (⟨"SequentDesk$Goals", "heir", "(LSequentDesk$Statement;I)LSequentDesk$Statement;"⟩, prog_4_method_13_code, 4, (some (Jvm.ClassFile.FieldType.object "SequentDesk$Statement")))
theorem mGS_heir_c : Cond.code mGS_heir.1 mGS_heir.2.1 mGS_heir.2.2.1 mGS_heir.2.2.2 ∈ sd_tbl := (sd_memT (sd_in3 (List.mem_of_getElem? (i := 231) rfl)) rfl)
def mTS_keepEquation : sd_M := (⟨"SequentDesk$Terms", "keepEquation", "(LSequentDesk$Term;ILSequentDesk$Term;I)I"⟩, prog_9_method_7_code, 5, (some Jvm.ClassFile.FieldType.int))
theorem mTS_keepEquation_c : Cond.code mTS_keepEquation.1 mTS_keepEquation.2.1 mTS_keepEquation.2.2.1 mTS_keepEquation.2.2.2 ∈ sd_tbl := (sd_memT (sd_in3 (List.mem_of_getElem? (i := 236) rfl)) rfl)
def mTS_nameRow : sd_M := (⟨"SequentDesk$Terms", "nameRow", "(I)LSequentDesk$Term;"⟩, prog_9_method_8_code, 2, (some (Jvm.ClassFile.FieldType.object "SequentDesk$Term")))
theorem mTS_nameRow_c : Cond.code mTS_nameRow.1 mTS_nameRow.2.1 mTS_nameRow.2.2.1 mTS_nameRow.2.2.2 ∈ sd_tbl := (sd_memT (sd_in4 (List.mem_of_getElem? (i := 3) rfl)) rfl)
def mGS_keepBodies : sd_M := (⟨"SequentDesk$Goals", "keepBodies", "(LSequentDesk$Term;LSequentDesk$Term;)I"⟩, prog_4_method_14_code, 4, (some Jvm.ClassFile.FieldType.int))
theorem mGS_keepBodies_c : Cond.code mGS_keepBodies.1 mGS_keepBodies.2.1 mGS_keepBodies.2.2.1 mGS_keepBodies.2.2.2 ∈ sd_tbl := (sd_memT (sd_in4 (List.mem_of_getElem? (i := 8) rfl)) rfl)
def mTS_keepPart : sd_M := (⟨"SequentDesk$Terms", "keepPart", "(LSequentDesk$Term;I)I"⟩, prog_9_method_6_code, 3, (some Jvm.ClassFile.FieldType.int))
theorem mTS_keepPart_c : Cond.code mTS_keepPart.1 mTS_keepPart.2.1 mTS_keepPart.2.2.1 mTS_keepPart.2.2.2 ∈ sd_tbl := (sd_memT (sd_in4 (List.mem_of_getElem? (i := 14) rfl)) rfl)
def mGS_leftBig : sd_M := (⟨"SequentDesk$Goals", "leftBig", "(I)Z"⟩, prog_4_method_15_code, 3, (some Jvm.ClassFile.FieldType.boolean))
theorem mGS_leftBig_c : Cond.code mGS_leftBig.1 mGS_leftBig.2.1 mGS_leftBig.2.2.1 mGS_leftBig.2.2.2 ∈ sd_tbl := (sd_memT (sd_in4 (List.mem_of_getElem? (i := 20) rfl)) rfl)
def mGS_take : sd_M := (⟨"SequentDesk$Goals", "take", "(II)V"⟩, prog_4_method_16_code, 5, none)
theorem mGS_take_c : Cond.code mGS_take.1 mGS_take.2.1 mGS_take.2.2.1 mGS_take.2.2.2 ∈ sd_tbl := (sd_memT (sd_in4 (List.mem_of_getElem? (i := 27) rfl)) rfl)
def mDK_undo : sd_M := (⟨"SequentDesk", "undo", "()I"⟩, prog_1_method_14_code, 1, (some Jvm.ClassFile.FieldType.int))
theorem mDK_undo_c : Cond.code mDK_undo.1 mDK_undo.2.1 mDK_undo.2.2.1 mDK_undo.2.2.2 ∈ sd_tbl := (sd_memT (sd_in4 (List.mem_of_getElem? (i := 31) rfl)) rfl)
def mGS_takeBack : sd_M := (⟨"SequentDesk$Goals", "takeBack", "()I"⟩, prog_4_method_17_code, 2, (some Jvm.ClassFile.FieldType.int))
theorem mGS_takeBack_c : Cond.code mGS_takeBack.1 mGS_takeBack.2.1 mGS_takeBack.2.2.1 mGS_takeBack.2.2.2 ∈ sd_tbl := (sd_memT (sd_in4 (List.mem_of_getElem? (i := 35) rfl)) rfl)
def mDK_repeat : sd_M := (⟨"SequentDesk", "repeat", "(I)I"⟩, prog_1_method_15_code, 3, (some Jvm.ClassFile.FieldType.int))
theorem mDK_repeat_c : Cond.code mDK_repeat.1 mDK_repeat.2.1 mDK_repeat.2.2.1 mDK_repeat.2.2.2 ∈ sd_tbl := (sd_memT (sd_in4 (List.mem_of_getElem? (i := 39) rfl)) rfl)
def mDK_advance : sd_M := (⟨"SequentDesk", "advance", "()Z"⟩, prog_1_method_16_code, 2, (some Jvm.ClassFile.FieldType.boolean))
theorem mDK_advance_c : Cond.code mDK_advance.1 mDK_advance.2.1 mDK_advance.2.2.1 mDK_advance.2.2.2 ∈ sd_tbl := (sd_memT (sd_in4 (List.mem_of_getElem? (i := 43) rfl)) rfl)
def mDK_open : sd_M := (⟨"SequentDesk", "open", "(II)I"⟩, prog_1_method_17_code, 4, (some Jvm.ClassFile.FieldType.int))
theorem mDK_open_c : Cond.code mDK_open.1 mDK_open.2.1 mDK_open.2.2.1 mDK_open.2.2.2 ∈ sd_tbl := (sd_memT (sd_in4 (List.mem_of_getElem? (i := 51) rfl)) rfl)
def mDK_close : sd_M := (⟨"SequentDesk", "close", "()I"⟩, prog_1_method_18_code, 1, (some Jvm.ClassFile.FieldType.int))
theorem mDK_close_c : Cond.code mDK_close.1 mDK_close.2.1 mDK_close.2.2.1 mDK_close.2.2.2 ∈ sd_tbl := (sd_memT (sd_in4 (List.mem_of_getElem? (i := 56) rfl)) rfl)
def mGS_finish : sd_M := (⟨"SequentDesk$Goals", "finish", "()I"⟩, prog_4_method_18_code, 3, (some Jvm.ClassFile.FieldType.int))
theorem mGS_finish_c : Cond.code mGS_finish.1 mGS_finish.2.1 mGS_finish.2.2.1 mGS_finish.2.2.2 ∈ sd_tbl := (sd_memT (sd_in4 (List.mem_of_getElem? (i := 60) rfl)) rfl)
def mGS_prove : sd_M := (⟨"SequentDesk$Goals", "prove", "(II)I"⟩, prog_4_method_19_code, 7, (some Jvm.ClassFile.FieldType.int))
theorem mGS_prove_c : Cond.code mGS_prove.1 mGS_prove.2.1 mGS_prove.2.2.1 mGS_prove.2.2.2 ∈ sd_tbl := (sd_memT (sd_in4 (List.mem_of_getElem? (i := 64) rfl)) rfl)
def mRU_makeFor : sd_M := (⟨"SequentDesk$Rules", "makeFor", "(LSequentDesk$Goal;II)I"⟩, prog_6_method_18_code, 4, (some Jvm.ClassFile.FieldType.int))
theorem mRU_makeFor_c : Cond.code mRU_makeFor.1 mRU_makeFor.2.1 mRU_makeFor.2.2.1 mRU_makeFor.2.2.2 ∈ sd_tbl := (sd_memT (sd_in4 (List.mem_of_getElem? (i := 68) rfl)) rfl)
def mDK_count : sd_M := (⟨"SequentDesk", "count", "(I)I"⟩, prog_1_method_19_code, 2, (some Jvm.ClassFile.FieldType.int))
theorem mDK_count_c : Cond.code mDK_count.1 mDK_count.2.1 mDK_count.2.2.1 mDK_count.2.2.2 ∈ sd_tbl := (sd_memT (sd_in4 (List.mem_of_getElem? (i := 72) rfl)) rfl)
def mMO_init : sd_M := (⟨"SequentDeskModel", "<init>", "()V"⟩, prog_13_method_1_code, 2, none)
theorem mMO_init_c : Cond.code mMO_init.1 mMO_init.2.1 mMO_init.2.2.1 mMO_init.2.2.2 ∈ sd_tbl := (sd_memT (sd_in4 (List.mem_of_getElem? (i := 77) rfl)) rfl)
def mMO_function : sd_M := (⟨"SequentDeskModel", "function", "(II)I"⟩, prog_13_method_10_code, 4, (some Jvm.ClassFile.FieldType.int))
theorem mMO_function_c : Cond.code mMO_function.1 mMO_function.2.1 mMO_function.2.2.1 mMO_function.2.2.2 ∈ sd_tbl := (sd_memT (sd_in4 (List.mem_of_getElem? (i := 197) rfl)) rfl)
def mMO_isType : sd_M := (⟨"SequentDeskModel", "isType", "(I)Z"⟩, prog_13_method_6_code, 1, (some Jvm.ClassFile.FieldType.boolean))
theorem mMO_isType_c : Cond.code mMO_isType.1 mMO_isType.2.1 mMO_isType.2.2.1 mMO_isType.2.2.2 ∈ sd_tbl := (sd_memT (sd_in4 (List.mem_of_getElem? (i := 200) rfl)) rfl)
def mMO_in : sd_M := (⟨"SequentDeskModel", "in", "(III)Z"⟩, prog_13_method_2_code, 3, (some Jvm.ClassFile.FieldType.boolean))
theorem mMO_in_c : Cond.code mMO_in.1 mMO_in.2.1 mMO_in.2.2.1 mMO_in.2.2.2 ∈ sd_tbl := (sd_memT (sd_in4 (List.mem_of_getElem? (i := 204) rfl)) rfl)
def mMO_size : sd_M := (⟨"SequentDeskModel", "size", "(I)I"⟩, prog_13_method_3_code, 2, (some Jvm.ClassFile.FieldType.int))
theorem mMO_size_c : Cond.code mMO_size.1 mMO_size.2.1 mMO_size.2.2.1 mMO_size.2.2.2 ∈ sd_tbl := (sd_memT (sd_in4 (List.mem_of_getElem? (i := 207) rfl)) rfl)
def mMO_extent : sd_M := (⟨"SequentDeskModel", "extent", "(II)I"⟩, prog_13_method_5_code, 4, (some Jvm.ClassFile.FieldType.int))
theorem mMO_extent_c : Cond.code mMO_extent.1 mMO_extent.2.1 mMO_extent.2.2.1 mMO_extent.2.2.2 ∈ sd_tbl := (sd_memT (sd_in4 (List.mem_of_getElem? (i := 210) rfl)) rfl)
def mMO_join : sd_M := (⟨"SequentDeskModel", "join", "(II)I"⟩, prog_13_method_4_code, 4, (some Jvm.ClassFile.FieldType.int))
theorem mMO_join_c : Cond.code mMO_join.1 mMO_join.2.1 mMO_join.2.2.1 mMO_join.2.2.2 ∈ sd_tbl := (sd_memT (sd_in4 (List.mem_of_getElem? (i := 213) rfl)) rfl)
def mMO_declare : sd_M := (⟨"SequentDeskModel", "declare", "(II)I"⟩, prog_13_method_11_code, 4, (some Jvm.ClassFile.FieldType.int))
theorem mMO_declare_c : Cond.code mMO_declare.1 mMO_declare.2.1 mMO_declare.2.2.1 mMO_declare.2.2.2 ∈ sd_tbl := (sd_memT (sd_in4 (List.mem_of_getElem? (i := 217) rfl)) rfl)
def mMO_token : sd_M := (⟨"SequentDeskModel", "token", "(I)I"⟩, prog_13_method_28_code, 2, (some Jvm.ClassFile.FieldType.int))
theorem mMO_token_c : Cond.code mMO_token.1 mMO_token.2.1 mMO_token.2.2.1 mMO_token.2.2.2 ∈ sd_tbl := (sd_memT (sd_in4 (List.mem_of_getElem? (i := 221) rfl)) rfl)
def mMO_clear : sd_M := (⟨"SequentDeskModel", "clear", "()I"⟩, prog_13_method_29_code, 2, (some Jvm.ClassFile.FieldType.int))
theorem mMO_clear_c : Cond.code mMO_clear.1 mMO_clear.2.1 mMO_clear.2.2.1 mMO_clear.2.2.2 ∈ sd_tbl := (sd_memT (sd_in4 (List.mem_of_getElem? (i := 225) rfl)) rfl)
def mMO_read : sd_M := (⟨"SequentDeskModel", "read", "()I"⟩, prog_13_method_40_code, 3, (some Jvm.ClassFile.FieldType.int))
theorem mMO_read_c : Cond.code mMO_read.1 mMO_read.2.1 mMO_read.2.2.1 mMO_read.2.2.2 ∈ sd_tbl := (sd_memT (sd_in4 (List.mem_of_getElem? (i := 229) rfl)) rfl)
def mMO_isShape : sd_M := (⟨"SequentDeskModel", "isShape", "()Z"⟩, prog_13_method_30_code, 3, (some Jvm.ClassFile.FieldType.boolean))
theorem mMO_isShape_c : Cond.code mMO_isShape.1 mMO_isShape.2.1 mMO_isShape.2.2.1 mMO_isShape.2.2.2 ∈ sd_tbl := (sd_memT (sd_in4 (List.mem_of_getElem? (i := 233) rfl)) rfl)
def mMO_spell : sd_M := (⟨"SequentDeskModel", "spell", "()V"⟩, prog_13_method_31_code, 4, none)
theorem mMO_spell_c : Cond.code mMO_spell.1 mMO_spell.2.1 mMO_spell.2.2.1 mMO_spell.2.2.2 ∈ sd_tbl := (sd_memT (sd_in4 (List.mem_of_getElem? (i := 237) rfl)) rfl)
def mMO_begin : sd_M := (⟨"SequentDeskModel", "begin", "(I)V"⟩, prog_13_method_17_code, 2, none)
theorem mMO_begin_c : Cond.code mMO_begin.1 mMO_begin.2.1 mMO_begin.2.2.1 mMO_begin.2.2.2 ∈ sd_tbl := (sd_memT (sd_in5 (List.mem_of_getElem? (i := 1) rfl)) rfl)
def mMO_add : sd_M := (⟨"SequentDeskModel", "add", "(III)V"⟩, prog_13_method_18_code, 4, none)
theorem mMO_add_c : Cond.code mMO_add.1 mMO_add.2.1 mMO_add.2.2.1 mMO_add.2.2.2 ∈ sd_tbl := (sd_memT (sd_in5 (List.mem_of_getElem? (i := 5) rfl)) rfl)
def mMO_end : sd_M := (⟨"SequentDeskModel", "end", "(II)I"⟩, prog_13_method_13_code, 5, (some Jvm.ClassFile.FieldType.int))
theorem mMO_end_c : Cond.code mMO_end.1 mMO_end.2.1 mMO_end.2.2.1 mMO_end.2.2.2 ∈ sd_tbl := (sd_memT (sd_in5 (List.mem_of_getElem? (i := 9) rfl)) rfl)
def mMO_arity : sd_M := (⟨"SequentDeskModel", "arity", "(I)I"⟩, prog_13_method_12_code, 1, (some Jvm.ClassFile.FieldType.int))
theorem mMO_arity_c : Cond.code mMO_arity.1 mMO_arity.2.1 mMO_arity.2.2.1 mMO_arity.2.2.2 ∈ sd_tbl := (sd_memT (sd_in5 (List.mem_of_getElem? (i := 12) rfl)) rfl)
def mMO_isTyped : sd_M := (⟨"SequentDeskModel", "isTyped", "()Z"⟩, prog_13_method_36_code, 7, (some Jvm.ClassFile.FieldType.boolean))
theorem mMO_isTyped_c : Cond.code mMO_isTyped.1 mMO_isTyped.2.1 mMO_isTyped.2.2.1 mMO_isTyped.2.2.2 ∈ sd_tbl := (sd_memT (sd_in5 (List.mem_of_getElem? (i := 16) rfl)) rfl)
def mMO_fresh : sd_M := (⟨"SequentDeskModel", "fresh", "(III)I"⟩, prog_13_method_33_code, 5, (some Jvm.ClassFile.FieldType.int))
theorem mMO_fresh_c : Cond.code mMO_fresh.1 mMO_fresh.2.1 mMO_fresh.2.2.1 mMO_fresh.2.2.2 ∈ sd_tbl := (sd_memT (sd_in5 (List.mem_of_getElem? (i := 20) rfl)) rfl)
def mMO_symbolAt : sd_M := (⟨"SequentDeskModel", "symbolAt", "(II)I"⟩, prog_13_method_14_code, 3, (some Jvm.ClassFile.FieldType.int))
theorem mMO_symbolAt_c : Cond.code mMO_symbolAt.1 mMO_symbolAt.2.1 mMO_symbolAt.2.2.1 mMO_symbolAt.2.2.2 ∈ sd_tbl := (sd_memT (sd_in5 (List.mem_of_getElem? (i := 24) rfl)) rfl)
def mMO_nameNode : sd_M := (⟨"SequentDeskModel", "nameNode", "(II)I"⟩, prog_13_method_37_code, 4, (some Jvm.ClassFile.FieldType.int))
theorem mMO_nameNode_c : Cond.code mMO_nameNode.1 mMO_nameNode.2.1 mMO_nameNode.2.2.1 mMO_nameNode.2.2.2 ∈ sd_tbl := (sd_memT (sd_in5 (List.mem_of_getElem? (i := 28) rfl)) rfl)
def mMO_nodeOf : sd_M := (⟨"SequentDeskModel", "nodeOf", "(I)I"⟩, prog_13_method_34_code, 9, (some Jvm.ClassFile.FieldType.int))
theorem mMO_nodeOf_c : Cond.code mMO_nodeOf.1 mMO_nodeOf.2.1 mMO_nodeOf.2.2.1 mMO_nodeOf.2.2.2 ∈ sd_tbl := (sd_memT (sd_in5 (List.mem_of_getElem? (i := 32) rfl)) rfl)
def mMO_unify : sd_M := (⟨"SequentDeskModel", "unify", "(II)Z"⟩, prog_13_method_35_code, 6, (some Jvm.ClassFile.FieldType.boolean))
theorem mMO_unify_c : Cond.code mMO_unify.1 mMO_unify.2.1 mMO_unify.2.2.1 mMO_unify.2.2.2 ∈ sd_tbl := (sd_memT (sd_in5 (List.mem_of_getElem? (i := 36) rfl)) rfl)
def mMO_root : sd_M := (⟨"SequentDeskModel", "root", "(I)I"⟩, prog_13_method_32_code, 3, (some Jvm.ClassFile.FieldType.int))
theorem mMO_root_c : Cond.code mMO_root.1 mMO_root.2.1 mMO_root.2.2.1 mMO_root.2.2.2 ∈ sd_tbl := (sd_memT (sd_in5 (List.mem_of_getElem? (i := 40) rfl)) rfl)
def mMO_binder : sd_M := (⟨"SequentDeskModel", "binder", "(I)I"⟩, prog_13_method_38_code, 4, (some Jvm.ClassFile.FieldType.int))
theorem mMO_binder_c : Cond.code mMO_binder.1 mMO_binder.2.1 mMO_binder.2.2.1 mMO_binder.2.2.2 ∈ sd_tbl := (sd_memT (sd_in5 (List.mem_of_getElem? (i := 44) rfl)) rfl)
def mMO_measure : sd_M := (⟨"SequentDeskModel", "measure", "()Z"⟩, prog_13_method_39_code, 6, (some Jvm.ClassFile.FieldType.boolean))
theorem mMO_measure_c : Cond.code mMO_measure.1 mMO_measure.2.1 mMO_measure.2.2.1 mMO_measure.2.2.2 ∈ sd_tbl := (sd_memT (sd_in5 (List.mem_of_getElem? (i := 48) rfl)) rfl)
def mMO_keep : sd_M := (⟨"SequentDeskModel", "keep", "(I)I"⟩, prog_13_method_22_code, 4, (some Jvm.ClassFile.FieldType.int))
theorem mMO_keep_c : Cond.code mMO_keep.1 mMO_keep.2.1 mMO_keep.2.2.1 mMO_keep.2.2.2 ∈ sd_tbl := (sd_memT (sd_in5 (List.mem_of_getElem? (i := 52) rfl)) rfl)
def mMO_find : sd_M := (⟨"SequentDeskModel", "find", "(II)I"⟩, prog_13_method_21_code, 4, (some Jvm.ClassFile.FieldType.int))
theorem mMO_find_c : Cond.code mMO_find.1 mMO_find.2.1 mMO_find.2.2.1 mMO_find.2.2.2 ∈ sd_tbl := (sd_memT (sd_in5 (List.mem_of_getElem? (i := 56) rfl)) rfl)
def mMO_same : sd_M := (⟨"SequentDeskModel", "same", "(IIII)Z"⟩, prog_13_method_20_code, 7, (some Jvm.ClassFile.FieldType.boolean))
theorem mMO_same_c : Cond.code mMO_same.1 mMO_same.2.1 mMO_same.2.2.1 mMO_same.2.2.2 ∈ sd_tbl := (sd_memT (sd_in5 (List.mem_of_getElem? (i := 60) rfl)) rfl)
def mMO_typeAt : sd_M := (⟨"SequentDeskModel", "typeAt", "(II)I"⟩, prog_13_method_15_code, 3, (some Jvm.ClassFile.FieldType.int))
theorem mMO_typeAt_c : Cond.code mMO_typeAt.1 mMO_typeAt.2.1 mMO_typeAt.2.2.1 mMO_typeAt.2.2.2 ∈ sd_tbl := (sd_memT (sd_in5 (List.mem_of_getElem? (i := 64) rfl)) rfl)
def mMO_term : sd_M := (⟨"SequentDeskModel", "term", "(II)I"⟩, prog_13_method_41_code, 8, (some Jvm.ClassFile.FieldType.int))
theorem mMO_term_c : Cond.code mMO_term.1 mMO_term.2.1 mMO_term.2.2.1 mMO_term.2.2.2 ∈ sd_tbl := (sd_memT (sd_in5 (List.mem_of_getElem? (i := 68) rfl)) rfl)
def mMO_isTerm : sd_M := (⟨"SequentDeskModel", "isTerm", "(I)Z"⟩, prog_13_method_23_code, 2, (some Jvm.ClassFile.FieldType.boolean))
theorem mMO_isTerm_c : Cond.code mMO_isTerm.1 mMO_isTerm.2.1 mMO_isTerm.2.2.1 mMO_isTerm.2.2.2 ∈ sd_tbl := (sd_memT (sd_in5 (List.mem_of_getElem? (i := 72) rfl)) rfl)
def mMO_typeOf : sd_M := (⟨"SequentDeskModel", "typeOf", "(I)I"⟩, prog_13_method_16_code, 2, (some Jvm.ClassFile.FieldType.int))
theorem mMO_typeOf_c : Cond.code mMO_typeOf.1 mMO_typeOf.2.1 mMO_typeOf.2.2.1 mMO_typeOf.2.2.2 ∈ sd_tbl := (sd_memT (sd_in5 (List.mem_of_getElem? (i := 76) rfl)) rfl)
def mMO_symbol : sd_M := (⟨"SequentDeskModel", "symbol", "(III)I"⟩, prog_13_method_42_code, 4, (some Jvm.ClassFile.FieldType.int))
theorem mMO_symbol_c : Cond.code mMO_symbol.1 mMO_symbol.2.1 mMO_symbol.2.2.1 mMO_symbol.2.2.2 ∈ sd_tbl := (sd_memT (sd_in5 (List.mem_of_getElem? (i := 80) rfl)) rfl)
def mMO_rule : sd_M := (⟨"SequentDeskModel", "rule", "(IIII)I"⟩, prog_13_method_53_code, 8, (some Jvm.ClassFile.FieldType.int))
theorem mMO_rule_c : Cond.code mMO_rule.1 mMO_rule.2.1 mMO_rule.2.2.1 mMO_rule.2.2.2 ∈ sd_tbl := (sd_memT (sd_in5 (List.mem_of_getElem? (i := 84) rfl)) rfl)
def mMO_isThere : sd_M := (⟨"SequentDeskModel", "isThere", "(IIII)Z"⟩, prog_13_method_50_code, 5, (some Jvm.ClassFile.FieldType.boolean))
theorem mMO_isThere_c : Cond.code mMO_isThere.1 mMO_isThere.2.1 mMO_isThere.2.2.1 mMO_isThere.2.2.2 ∈ sd_tbl := (sd_memT (sd_in5 (List.mem_of_getElem? (i := 88) rfl)) rfl)
def mMO_isTheorem : sd_M := (⟨"SequentDeskModel", "isTheorem", "(I)Z"⟩, prog_13_method_24_code, 2, (some Jvm.ClassFile.FieldType.boolean))
theorem mMO_isTheorem_c : Cond.code mMO_isTheorem.1 mMO_isTheorem.2.1 mMO_isTheorem.2.2.1 mMO_isTheorem.2.2.2 ∈ sd_tbl := (sd_memT (sd_in5 (List.mem_of_getElem? (i := 92) rfl)) rfl)
def mMO_fits : sd_M := (⟨"SequentDeskModel", "fits", "(IIII)Z"⟩, prog_13_method_51_code, 8, (some Jvm.ClassFile.FieldType.boolean))
theorem mMO_fits_c : Cond.code mMO_fits.1 mMO_fits.2.1 mMO_fits.2.2.1 mMO_fits.2.2.2 ∈ sd_tbl := (sd_memT (sd_in5 (List.mem_of_getElem? (i := 96) rfl)) rfl)
def mMO_isEqual : sd_M := (⟨"SequentDeskModel", "isEqual", "(I)Z"⟩, prog_13_method_45_code, 2, (some Jvm.ClassFile.FieldType.boolean))
theorem mMO_isEqual_c : Cond.code mMO_isEqual.1 mMO_isEqual.2.1 mMO_isEqual.2.2.1 mMO_isEqual.2.2.2 ∈ sd_tbl := (sd_memT (sd_in5 (List.mem_of_getElem? (i := 100) rfl)) rfl)
def mMO_isFunction : sd_M := (⟨"SequentDeskModel", "isFunction", "(I)Z"⟩, prog_13_method_7_code, 1, (some Jvm.ClassFile.FieldType.boolean))
theorem mMO_isFunction_c : Cond.code mMO_isFunction.1 mMO_isFunction.2.1 mMO_isFunction.2.2.1 mMO_isFunction.2.2.2 ∈ sd_tbl := (sd_memT (sd_in5 (List.mem_of_getElem? (i := 103) rfl)) rfl)
def mMO_from : sd_M := (⟨"SequentDeskModel", "from", "(I)I"⟩, prog_13_method_8_code, 3, (some Jvm.ClassFile.FieldType.int))
theorem mMO_from_c : Cond.code mMO_from.1 mMO_from.2.1 mMO_from.2.2.1 mMO_from.2.2.2 ∈ sd_tbl := (sd_memT (sd_in5 (List.mem_of_getElem? (i := 106) rfl)) rfl)
def mMO_names : sd_M := (⟨"SequentDeskModel", "names", "(II)Z"⟩, prog_13_method_25_code, 4, (some Jvm.ClassFile.FieldType.boolean))
theorem mMO_names_c : Cond.code mMO_names.1 mMO_names.2.1 mMO_names.2.2.1 mMO_names.2.2.2 ∈ sd_tbl := (sd_memT (sd_in5 (List.mem_of_getElem? (i := 110) rfl)) rfl)
def mMO_isBeta : sd_M := (⟨"SequentDeskModel", "isBeta", "(II)Z"⟩, prog_13_method_46_code, 3, (some Jvm.ClassFile.FieldType.boolean))
theorem mMO_isBeta_c : Cond.code mMO_isBeta.1 mMO_isBeta.2.1 mMO_isBeta.2.2.1 mMO_isBeta.2.2.2 ∈ sd_tbl := (sd_memT (sd_in5 (List.mem_of_getElem? (i := 114) rfl)) rfl)
def mMO_build : sd_M := (⟨"SequentDeskModel", "build", "(IIII)V"⟩, prog_13_method_52_code, 11, none)
theorem mMO_build_c : Cond.code mMO_build.1 mMO_build.2.1 mMO_build.2.2.1 mMO_build.2.2.2 ∈ sd_tbl := (sd_memT (sd_in5 (List.mem_of_getElem? (i := 118) rfl)) rfl)
def mMO_equal : sd_M := (⟨"SequentDeskModel", "equal", "(IIIII)V"⟩, prog_13_method_27_code, 6, none)
theorem mMO_equal_c : Cond.code mMO_equal.1 mMO_equal.2.1 mMO_equal.2.2.1 mMO_equal.2.2.2 ∈ sd_tbl := (sd_memT (sd_in5 (List.mem_of_getElem? (i := 122) rfl)) rfl)
def mMO_copy : sd_M := (⟨"SequentDeskModel", "copy", "(III)V"⟩, prog_13_method_19_code, 6, none)
theorem mMO_copy_c : Cond.code mMO_copy.1 mMO_copy.2.1 mMO_copy.2.2.1 mMO_copy.2.2.2 ∈ sd_tbl := (sd_memT (sd_in5 (List.mem_of_getElem? (i := 126) rfl)) rfl)
def mMO_hold : sd_M := (⟨"SequentDeskModel", "hold", "(I)V"⟩, prog_13_method_48_code, 3, none)
theorem mMO_hold_c : Cond.code mMO_hold.1 mMO_hold.2.1 mMO_hold.2.2.1 mMO_hold.2.2.2 ∈ sd_tbl := (sd_memT (sd_in5 (List.mem_of_getElem? (i := 130) rfl)) rfl)
def mMO_to : sd_M := (⟨"SequentDeskModel", "to", "(I)I"⟩, prog_13_method_9_code, 3, (some Jvm.ClassFile.FieldType.int))
theorem mMO_to_c : Cond.code mMO_to.1 mMO_to.2.1 mMO_to.2.2.1 mMO_to.2.2.2 ∈ sd_tbl := (sd_memT (sd_in5 (List.mem_of_getElem? (i := 133) rfl)) rfl)
def mMO_put : sd_M := (⟨"SequentDeskModel", "put", "(IIIII)V"⟩, prog_13_method_43_code, 9, none)
theorem mMO_put_c : Cond.code mMO_put.1 mMO_put.2.1 mMO_put.2.2.1 mMO_put.2.2.2 ∈ sd_tbl := (sd_memT (sd_in5 (List.mem_of_getElem? (i := 137) rfl)) rfl)
def mMO_around : sd_M := (⟨"SequentDeskModel", "around", "(III)I"⟩, prog_13_method_26_code, 6, (some Jvm.ClassFile.FieldType.int))
theorem mMO_around_c : Cond.code mMO_around.1 mMO_around.2.1 mMO_around.2.2.1 mMO_around.2.2.2 ∈ sd_tbl := (sd_memT (sd_in5 (List.mem_of_getElem? (i := 141) rfl)) rfl)
def mMO_beta : sd_M := (⟨"SequentDeskModel", "beta", "(III)V"⟩, prog_13_method_47_code, 5, none)
theorem mMO_beta_c : Cond.code mMO_beta.1 mMO_beta.2.1 mMO_beta.2.2.1 mMO_beta.2.2.2 ∈ sd_tbl := (sd_memT (sd_in5 (List.mem_of_getElem? (i := 145) rfl)) rfl)
def mMO_open5 : sd_M := (⟨"SequentDeskModel", "open", "(IIIII)V"⟩, prog_13_method_44_code, 9, none)
theorem mMO_open5_c : Cond.code mMO_open5.1 mMO_open5.2.1 mMO_open5.2.2.1 mMO_open5.2.2.2 ∈ sd_tbl := (sd_memT (sd_in5 (List.mem_of_getElem? (i := 149) rfl)) rfl)
def mMO_gather : sd_M := (⟨"SequentDeskModel", "gather", "(II)V"⟩, prog_13_method_49_code, 4, none)
theorem mMO_gather_c : Cond.code mMO_gather.1 mMO_gather.2.1 mMO_gather.2.2.1 mMO_gather.2.2.2 ∈ sd_tbl := (sd_memT (sd_in5 (List.mem_of_getElem? (i := 153) rfl)) rfl)
def mMO_note : sd_M := (⟨"SequentDeskModel", "note", "(IIII)I"⟩, prog_13_method_54_code, 6, (some Jvm.ClassFile.FieldType.int))
theorem mMO_note_c : Cond.code mMO_note.1 mMO_note.2.1 mMO_note.2.2.1 mMO_note.2.2.2 ∈ sd_tbl := (sd_memT (sd_in5 (List.mem_of_getElem? (i := 157) rfl)) rfl)
def mMO_theorem : sd_M := (⟨"SequentDeskModel", "theorem", "(II)I"⟩, prog_13_method_56_code, 3, (some Jvm.ClassFile.FieldType.int))
theorem mMO_theorem_c : Cond.code mMO_theorem.1 mMO_theorem.2.1 mMO_theorem.2.2.1 mMO_theorem.2.2.2 ∈ sd_tbl := (sd_memT (sd_in5 (List.mem_of_getElem? (i := 161) rfl)) rfl)
def mMO_rests : sd_M := (⟨"SequentDeskModel", "rests", "(I)I"⟩, prog_13_method_55_code, 6, (some Jvm.ClassFile.FieldType.int))
theorem mMO_rests_c : Cond.code mMO_rests.1 mMO_rests.2.1 mMO_rests.2.2.1 mMO_rests.2.2.2 ∈ sd_tbl := (sd_memT (sd_in5 (List.mem_of_getElem? (i := 165) rfl)) rfl)
def mMO_hypothesis : sd_M := (⟨"SequentDeskModel", "hypothesis", "(II)I"⟩, prog_13_method_57_code, 3, (some Jvm.ClassFile.FieldType.int))
theorem mMO_hypothesis_c : Cond.code mMO_hypothesis.1 mMO_hypothesis.2.1 mMO_hypothesis.2.2.1 mMO_hypothesis.2.2.2 ∈ sd_tbl := (sd_memT (sd_in5 (List.mem_of_getElem? (i := 169) rfl)) rfl)
def mMO_goal : sd_M := (⟨"SequentDeskModel", "goal", "(I)I"⟩, prog_13_method_58_code, 2, (some Jvm.ClassFile.FieldType.int))
theorem mMO_goal_c : Cond.code mMO_goal.1 mMO_goal.2.1 mMO_goal.2.2.1 mMO_goal.2.2.2 ∈ sd_tbl := (sd_memT (sd_in5 (List.mem_of_getElem? (i := 173) rfl)) rfl)
def mMO_tactic : sd_M := (⟨"SequentDeskModel", "tactic", "(II)I"⟩, prog_13_method_62_code, 12, (some Jvm.ClassFile.FieldType.int))
theorem mMO_tactic_c : Cond.code mMO_tactic.1 mMO_tactic.2.1 mMO_tactic.2.2.1 mMO_tactic.2.2.2 ∈ sd_tbl := (sd_memT (sd_in5 (List.mem_of_getElem? (i := 177) rfl)) rfl)
def mMO_suits : sd_M := (⟨"SequentDeskModel", "suits", "(III)Z"⟩, prog_13_method_60_code, 7, (some Jvm.ClassFile.FieldType.boolean))
theorem mMO_suits_c : Cond.code mMO_suits.1 mMO_suits.2.1 mMO_suits.2.2.1 mMO_suits.2.2.2 ∈ sd_tbl := (sd_memT (sd_in5 (List.mem_of_getElem? (i := 181) rfl)) rfl)
def mMO_assumes : sd_M := (⟨"SequentDeskModel", "assumes", "(II)Z"⟩, prog_13_method_59_code, 4, (some Jvm.ClassFile.FieldType.boolean))
theorem mMO_assumes_c : Cond.code mMO_assumes.1 mMO_assumes.2.1 mMO_assumes.2.2.1 mMO_assumes.2.2.2 ∈ sd_tbl := (sd_memT (sd_in5 (List.mem_of_getElem? (i := 185) rfl)) rfl)
def mMO_givesBeta : sd_M := (⟨"SequentDeskModel", "givesBeta", "(II)Z"⟩, prog_13_method_61_code, 3, (some Jvm.ClassFile.FieldType.boolean))
theorem mMO_givesBeta_c : Cond.code mMO_givesBeta.1 mMO_givesBeta.2.1 mMO_givesBeta.2.2.1 mMO_givesBeta.2.2.2 ∈ sd_tbl := (sd_memT (sd_in5 (List.mem_of_getElem? (i := 189) rfl)) rfl)
def mMO_leave : sd_M := (⟨"SequentDeskModel", "leave", "(III)I"⟩, prog_13_method_64_code, 5, (some Jvm.ClassFile.FieldType.int))
theorem mMO_leave_c : Cond.code mMO_leave.1 mMO_leave.2.1 mMO_leave.2.2.1 mMO_leave.2.2.2 ∈ sd_tbl := (sd_memT (sd_in5 (List.mem_of_getElem? (i := 193) rfl)) rfl)
def mMO_child : sd_M := (⟨"SequentDeskModel", "child", "(IIII)V"⟩, prog_13_method_63_code, 7, none)
theorem mMO_child_c : Cond.code mMO_child.1 mMO_child.2.1 mMO_child.2.2.1 mMO_child.2.2.2 ∈ sd_tbl := (sd_memT (sd_in5 (List.mem_of_getElem? (i := 197) rfl)) rfl)
def mMO_undo : sd_M := (⟨"SequentDeskModel", "undo", "()I"⟩, prog_13_method_65_code, 4, (some Jvm.ClassFile.FieldType.int))
theorem mMO_undo_c : Cond.code mMO_undo.1 mMO_undo.2.1 mMO_undo.2.2.1 mMO_undo.2.2.2 ∈ sd_tbl := (sd_memT (sd_in5 (List.mem_of_getElem? (i := 201) rfl)) rfl)
def mMO_repeat : sd_M := (⟨"SequentDeskModel", "repeat", "(I)I"⟩, prog_13_method_66_code, 6, (some Jvm.ClassFile.FieldType.int))
theorem mMO_repeat_c : Cond.code mMO_repeat.1 mMO_repeat.2.1 mMO_repeat.2.2.1 mMO_repeat.2.2.2 ∈ sd_tbl := (sd_memT (sd_in5 (List.mem_of_getElem? (i := 205) rfl)) rfl)
def mMO_open2 : sd_M := (⟨"SequentDeskModel", "open", "(II)I"⟩, prog_13_method_67_code, 4, (some Jvm.ClassFile.FieldType.int))
theorem mMO_open2_c : Cond.code mMO_open2.1 mMO_open2.2.1 mMO_open2.2.2.1 mMO_open2.2.2.2 ∈ sd_tbl := (sd_memT (sd_in5 (List.mem_of_getElem? (i := 210) rfl)) rfl)
def mMO_close : sd_M := (⟨"SequentDeskModel", "close", "()I"⟩, prog_13_method_68_code, 5, (some Jvm.ClassFile.FieldType.int))
theorem mMO_close_c : Cond.code mMO_close.1 mMO_close.2.1 mMO_close.2.2.1 mMO_close.2.2.2 ∈ sd_tbl := (sd_memT (sd_in5 (List.mem_of_getElem? (i := 214) rfl)) rfl)
def mMO_derive : sd_M := (⟨"SequentDeskModel", "derive", "(I)I"⟩, prog_13_method_69_code, 5, (some Jvm.ClassFile.FieldType.int))
theorem mMO_derive_c : Cond.code mMO_derive.1 mMO_derive.2.1 mMO_derive.2.2.1 mMO_derive.2.2.2 ∈ sd_tbl := (sd_memT (sd_in5 (List.mem_of_getElem? (i := 218) rfl)) rfl)
def mMO_count : sd_M := (⟨"SequentDeskModel", "count", "(I)I"⟩, prog_13_method_70_code, 2, (some Jvm.ClassFile.FieldType.int))
theorem mMO_count_c : Cond.code mMO_count.1 mMO_count.2.1 mMO_count.2.2.1 mMO_count.2.2.2 ∈ sd_tbl := (sd_memT (sd_in5 (List.mem_of_getElem? (i := 222) rfl)) rfl)
theorem fDK_10 : sd_fl "SequentDesk" 10 0 0 := sd_fl1 (r := sR_DK) rfl (by decide) (sd_in2 (List.mem_of_getElem? (i := 43) rfl))
theorem fDK_19 : sd_fl "SequentDesk" 19 0 1 := sd_fl1 (r := sR_DK) rfl (by decide) (sd_in2 (List.mem_of_getElem? (i := 44) rfl))
theorem fDK_26 : sd_fl "SequentDesk" 26 0 2 := sd_fl1 (r := sR_DK) rfl (by decide) (sd_in2 (List.mem_of_getElem? (i := 45) rfl))
theorem fDK_35 : sd_fl "SequentDesk" 35 0 3 := sd_fl1 (r := sR_DK) rfl (by decide) (sd_in2 (List.mem_of_getElem? (i := 46) rfl))
theorem fDK_44 : sd_fl "SequentDesk" 44 0 4 := sd_fl1 (r := sR_DK) rfl (by decide) (sd_in2 (List.mem_of_getElem? (i := 47) rfl))
theorem fDK_61 : sd_fl "SequentDesk" 61 8 2 := sd_fl1 (r := sR_TS) rfl (by decide) (sd_in1 (List.mem_of_getElem? (i := 78) rfl))
theorem fDK_65 : sd_fl "SequentDesk" 65 8 0 := sd_fl1 (r := sR_TS) rfl (by decide) (sd_in1 (List.mem_of_getElem? (i := 70) rfl))
theorem fDK_69 : sd_fl "SequentDesk" 69 1 2 := sd_fl1 (r := sR_DR) rfl (by decide) (sd_in1 (List.mem_of_getElem? (i := 102) rfl))
theorem fDK_72 : sd_fl "SequentDesk" 72 1 0 := sd_fl1 (r := sR_DR) rfl (by decide) (sd_in1 (List.mem_of_getElem? (i := 98) rfl))
theorem fDK_87 : sd_fl "SequentDesk" 87 1 1 := sd_fl1 (r := sR_DR) rfl (by decide) (sd_in1 (List.mem_of_getElem? (i := 100) rfl))
theorem fDK_104 : sd_fl "SequentDesk" 104 8 1 := sd_fl1 (r := sR_TS) rfl (by decide) (sd_in1 (List.mem_of_getElem? (i := 76) rfl))
theorem fDK_108 : sd_fl "SequentDesk" 108 7 3 := sd_fl1 (r := sR_TM) rfl (by decide) (sd_in1 (List.mem_of_getElem? (i := 53) rfl))
theorem fDK_111 : sd_fl "SequentDesk" 111 7 1 := sd_fl1 (r := sR_TM) rfl (by decide) (sd_in1 (List.mem_of_getElem? (i := 44) rfl))
theorem fDK_120 : sd_fl "SequentDesk" 120 7 0 := sd_fl1 (r := sR_TM) rfl (by decide) (sd_in1 (List.mem_of_getElem? (i := 40) rfl))
theorem fDK_128 : sd_fl "SequentDesk" 128 5 1 := sd_fl1 (r := sR_RU) rfl (by decide) (sd_in1 (List.mem_of_getElem? (i := 213) rfl))
theorem fDK_131 : sd_fl "SequentDesk" 131 9 0 := sd_fl1 (r := sR_TH) rfl (by decide) (sd_in1 (List.mem_of_getElem? (i := 190) rfl))
theorem fDK_137 : sd_fl "SequentDesk" 137 6 2 := sd_fl1 (r := sR_ST) rfl (by decide) (sd_in1 (List.mem_of_getElem? (i := 174) rfl))
theorem fDK_142 : sd_fl "SequentDesk" 142 6 1 := sd_fl1 (r := sR_ST) rfl (by decide) (sd_in1 (List.mem_of_getElem? (i := 169) rfl))
theorem fDK_145 : sd_fl "SequentDesk" 145 9 1 := sd_fl1 (r := sR_TH) rfl (by decide) (sd_in1 (List.mem_of_getElem? (i := 191) rfl))
theorem fDK_148 : sd_fl "SequentDesk" 148 9 2 := sd_fl1 (r := sR_TH) rfl (by decide) (sd_in1 (List.mem_of_getElem? (i := 193) rfl))
theorem fDK_151 : sd_fl "SequentDesk" 151 9 3 := sd_fl1 (r := sR_TH) rfl (by decide) (sd_in1 (List.mem_of_getElem? (i := 195) rfl))
theorem fDK_154 : sd_fl "SequentDesk" 154 9 4 := sd_fl1 (r := sR_TH) rfl (by decide) (sd_in1 (List.mem_of_getElem? (i := 197) rfl))
theorem fDK_164 : sd_fl "SequentDesk" 164 6 0 := sd_fl1 (r := sR_ST) rfl (by decide) (sd_in1 (List.mem_of_getElem? (i := 165) rfl))
theorem fDK_171 : sd_fl "SequentDesk" 171 3 5 := sd_fl1 (r := sR_GS) rfl (by decide) (sd_in2 (List.mem_of_getElem? (i := 23) rfl))
theorem fDK_193 : sd_fl "SequentDesk" 193 2 0 := sd_fl1 (r := sR_GL) rfl (by decide) (sd_in2 (List.mem_of_getElem? (i := 1) rfl))
theorem fDK_201 : sd_fl "SequentDesk" 201 5 2 := sd_fl1 (r := sR_RU) rfl (by decide) (sd_in1 (List.mem_of_getElem? (i := 216) rfl))
theorem fDK_202 : sd_fl "SequentDesk" 202 3 3 := sd_fl1 (r := sR_GS) rfl (by decide) (sd_in2 (List.mem_of_getElem? (i := 20) rfl))
theorem fDR_9 : sd_fl "SequentDesk$Draft" 9 1 0 := sd_fl1 (r := sR_DR) rfl (by decide) (sd_in1 (List.mem_of_getElem? (i := 97) rfl))
theorem fDR_15 : sd_fl "SequentDesk$Draft" 15 1 1 := sd_fl1 (r := sR_DR) rfl (by decide) (sd_in1 (List.mem_of_getElem? (i := 99) rfl))
theorem fDR_18 : sd_fl "SequentDesk$Draft" 18 1 2 := sd_fl1 (r := sR_DR) rfl (by decide) (sd_in1 (List.mem_of_getElem? (i := 101) rfl))
theorem fDR_52 : sd_fl "SequentDesk$Draft" 52 7 0 := sd_fl1 (r := sR_TM) rfl (by decide) (sd_in1 (List.mem_of_getElem? (i := 37) rfl))
theorem fDR_58 : sd_fl "SequentDesk$Draft" 58 7 2 := sd_fl1 (r := sR_TM) rfl (by decide) (sd_in1 (List.mem_of_getElem? (i := 48) rfl))
theorem fGL_10 : sd_fl "SequentDesk$Goal" 10 2 0 := sd_fl1 (r := sR_GL) rfl (by decide) (sd_in1 (List.mem_of_getElem? (i := 239) rfl))
theorem fGS_11 : sd_fl "SequentDesk$Goals" 11 3 2 := sd_fl1 (r := sR_GS) rfl (by decide) (sd_in2 (List.mem_of_getElem? (i := 18) rfl))
theorem fGS_17 : sd_fl "SequentDesk$Goals" 17 3 4 := sd_fl1 (r := sR_GS) rfl (by decide) (sd_in2 (List.mem_of_getElem? (i := 21) rfl))
theorem fGS_21 : sd_fl "SequentDesk$Goals" 21 3 6 := sd_fl1 (r := sR_GS) rfl (by decide) (sd_in2 (List.mem_of_getElem? (i := 24) rfl))
theorem fGS_24 : sd_fl "SequentDesk$Goals" 24 3 0 := sd_fl1 (r := sR_GS) rfl (by decide) (sd_in2 (List.mem_of_getElem? (i := 16) rfl))
theorem fGS_28 : sd_fl "SequentDesk$Goals" 28 3 1 := sd_fl1 (r := sR_GS) rfl (by decide) (sd_in2 (List.mem_of_getElem? (i := 17) rfl))
theorem fGS_33 : sd_fl "SequentDesk$Goals" 33 3 3 := sd_fl1 (r := sR_GS) rfl (by decide) (sd_in2 (List.mem_of_getElem? (i := 19) rfl))
theorem fGS_37 : sd_fl "SequentDesk$Goals" 37 3 5 := sd_fl1 (r := sR_GS) rfl (by decide) (sd_in2 (List.mem_of_getElem? (i := 22) rfl))
theorem fGS_40 : sd_fl "SequentDesk$Goals" 40 3 7 := sd_fl1 (r := sR_GS) rfl (by decide) (sd_in2 (List.mem_of_getElem? (i := 25) rfl))
theorem fGS_46 : sd_fl "SequentDesk$Goals" 46 2 0 := sd_fl1 (r := sR_GL) rfl (by decide) (sd_in2 (List.mem_of_getElem? (i := 0) rfl))
theorem fGS_71 : sd_fl "SequentDesk$Goals" 71 8 2 := sd_fl1 (r := sR_TS) rfl (by decide) (sd_in1 (List.mem_of_getElem? (i := 80) rfl))
theorem fGS_102 : sd_fl "SequentDesk$Goals" 102 8 1 := sd_fl1 (r := sR_TS) rfl (by decide) (sd_in1 (List.mem_of_getElem? (i := 75) rfl))
theorem fGS_105 : sd_fl "SequentDesk$Goals" 105 6 2 := sd_fl1 (r := sR_ST) rfl (by decide) (sd_in1 (List.mem_of_getElem? (i := 173) rfl))
theorem fGS_124 : sd_fl "SequentDesk$Goals" 124 7 1 := sd_fl1 (r := sR_TM) rfl (by decide) (sd_in1 (List.mem_of_getElem? (i := 45) rfl))
theorem fGS_141 : sd_fl "SequentDesk$Goals" 141 5 1 := sd_fl1 (r := sR_RU) rfl (by decide) (sd_in1 (List.mem_of_getElem? (i := 212) rfl))
theorem fGS_144 : sd_fl "SequentDesk$Goals" 144 9 0 := sd_fl1 (r := sR_TH) rfl (by decide) (sd_in1 (List.mem_of_getElem? (i := 189) rfl))
theorem fGS_153 : sd_fl "SequentDesk$Goals" 153 7 0 := sd_fl1 (r := sR_TM) rfl (by decide) (sd_in1 (List.mem_of_getElem? (i := 39) rfl))
theorem fGS_156 : sd_fl "SequentDesk$Goals" 156 8 0 := sd_fl1 (r := sR_TS) rfl (by decide) (sd_in1 (List.mem_of_getElem? (i := 72) rfl))
theorem fGS_176 : sd_fl "SequentDesk$Goals" 176 7 2 := sd_fl1 (r := sR_TM) rfl (by decide) (sd_in1 (List.mem_of_getElem? (i := 49) rfl))
theorem fGS_183 : sd_fl "SequentDesk$Goals" 183 7 4 := sd_fl1 (r := sR_TM) rfl (by decide) (sd_in1 (List.mem_of_getElem? (i := 56) rfl))
theorem fGS_227 : sd_fl "SequentDesk$Goals" 227 6 3 := sd_fl1 (r := sR_ST) rfl (by decide) (sd_in1 (List.mem_of_getElem? (i := 177) rfl))
theorem fGS_228 : sd_fl "SequentDesk$Goals" 228 2 1 := sd_fl1 (r := sR_GL) rfl (by decide) (sd_in2 (List.mem_of_getElem? (i := 3) rfl))
theorem fGS_231 : sd_fl "SequentDesk$Goals" 231 2 2 := sd_fl1 (r := sR_GL) rfl (by decide) (sd_in2 (List.mem_of_getElem? (i := 5) rfl))
theorem fGS_234 : sd_fl "SequentDesk$Goals" 234 2 3 := sd_fl1 (r := sR_GL) rfl (by decide) (sd_in2 (List.mem_of_getElem? (i := 6) rfl))
theorem fGS_237 : sd_fl "SequentDesk$Goals" 237 5 2 := sd_fl1 (r := sR_RU) rfl (by decide) (sd_in1 (List.mem_of_getElem? (i := 215) rfl))
theorem fIN_11 : sd_fl "SequentDesk$Inference" 11 4 0 := sd_fl1 (r := sR_IN) rfl (by decide) (sd_in1 (List.mem_of_getElem? (i := 116) rfl))
theorem fIN_15 : sd_fl "SequentDesk$Inference" 15 4 1 := sd_fl1 (r := sR_IN) rfl (by decide) (sd_in1 (List.mem_of_getElem? (i := 117) rfl))
theorem fIN_18 : sd_fl "SequentDesk$Inference" 18 4 2 := sd_fl1 (r := sR_IN) rfl (by decide) (sd_in1 (List.mem_of_getElem? (i := 118) rfl))
theorem fIN_21 : sd_fl "SequentDesk$Inference" 21 4 3 := sd_fl1 (r := sR_IN) rfl (by decide) (sd_in1 (List.mem_of_getElem? (i := 119) rfl))
theorem fIN_24 : sd_fl "SequentDesk$Inference" 24 4 4 := sd_fl1 (r := sR_IN) rfl (by decide) (sd_in1 (List.mem_of_getElem? (i := 120) rfl))
theorem fIN_27 : sd_fl "SequentDesk$Inference" 27 4 5 := sd_fl1 (r := sR_IN) rfl (by decide) (sd_in1 (List.mem_of_getElem? (i := 121) rfl))
theorem fIN_30 : sd_fl "SequentDesk$Inference" 30 4 6 := sd_fl1 (r := sR_IN) rfl (by decide) (sd_in1 (List.mem_of_getElem? (i := 122) rfl))
theorem fIN_36 : sd_fl "SequentDesk$Inference" 36 7 3 := sd_fl1 (r := sR_TM) rfl (by decide) (sd_in1 (List.mem_of_getElem? (i := 52) rfl))
theorem fIN_65 : sd_fl "SequentDesk$Inference" 65 7 1 := sd_fl1 (r := sR_TM) rfl (by decide) (sd_in1 (List.mem_of_getElem? (i := 42) rfl))
theorem fIN_71 : sd_fl "SequentDesk$Inference" 71 4 8 := sd_fl1 (r := sR_IN) rfl (by decide) (sd_in1 (List.mem_of_getElem? (i := 124) rfl))
theorem fIN_74 : sd_fl "SequentDesk$Inference" 74 4 7 := sd_fl1 (r := sR_IN) rfl (by decide) (sd_in1 (List.mem_of_getElem? (i := 123) rfl))
theorem fIN_77 : sd_fl "SequentDesk$Inference" 77 7 0 := sd_fl1 (r := sR_TM) rfl (by decide) (sd_in1 (List.mem_of_getElem? (i := 38) rfl))
theorem fIN_80 : sd_fl "SequentDesk$Inference" 80 7 2 := sd_fl1 (r := sR_TM) rfl (by decide) (sd_in1 (List.mem_of_getElem? (i := 47) rfl))
theorem fRU_11 : sd_fl "SequentDesk$Rules" 11 5 1 := sd_fl1 (r := sR_RU) rfl (by decide) (sd_in1 (List.mem_of_getElem? (i := 211) rfl))
theorem fRU_17 : sd_fl "SequentDesk$Rules" 17 5 0 := sd_fl1 (r := sR_RU) rfl (by decide) (sd_in1 (List.mem_of_getElem? (i := 210) rfl))
theorem fRU_22 : sd_fl "SequentDesk$Rules" 22 5 2 := sd_fl1 (r := sR_RU) rfl (by decide) (sd_in1 (List.mem_of_getElem? (i := 214) rfl))
theorem fRU_33 : sd_fl "SequentDesk$Rules" 33 8 2 := sd_fl1 (r := sR_TS) rfl (by decide) (sd_in1 (List.mem_of_getElem? (i := 79) rfl))
theorem fRU_40 : sd_fl "SequentDesk$Rules" 40 9 0 := sd_fl1 (r := sR_TH) rfl (by decide) (sd_in1 (List.mem_of_getElem? (i := 188) rfl))
theorem fRU_44 : sd_fl "SequentDesk$Rules" 44 6 3 := sd_fl1 (r := sR_ST) rfl (by decide) (sd_in1 (List.mem_of_getElem? (i := 176) rfl))
theorem fRU_62 : sd_fl "SequentDesk$Rules" 62 8 1 := sd_fl1 (r := sR_TS) rfl (by decide) (sd_in1 (List.mem_of_getElem? (i := 74) rfl))
theorem fRU_65 : sd_fl "SequentDesk$Rules" 65 6 2 := sd_fl1 (r := sR_ST) rfl (by decide) (sd_in1 (List.mem_of_getElem? (i := 172) rfl))
theorem fRU_68 : sd_fl "SequentDesk$Rules" 68 7 1 := sd_fl1 (r := sR_TM) rfl (by decide) (sd_in1 (List.mem_of_getElem? (i := 43) rfl))
theorem fRU_98 : sd_fl "SequentDesk$Rules" 98 8 0 := sd_fl1 (r := sR_TS) rfl (by decide) (sd_in1 (List.mem_of_getElem? (i := 71) rfl))
theorem fRU_149 : sd_fl "SequentDesk$Rules" 149 9 1 := sd_fl1 (r := sR_TH) rfl (by decide) (sd_in1 (List.mem_of_getElem? (i := 192) rfl))
theorem fRU_152 : sd_fl "SequentDesk$Rules" 152 9 2 := sd_fl1 (r := sR_TH) rfl (by decide) (sd_in1 (List.mem_of_getElem? (i := 194) rfl))
theorem fRU_155 : sd_fl "SequentDesk$Rules" 155 9 3 := sd_fl1 (r := sR_TH) rfl (by decide) (sd_in1 (List.mem_of_getElem? (i := 196) rfl))
theorem fRU_158 : sd_fl "SequentDesk$Rules" 158 9 4 := sd_fl1 (r := sR_TH) rfl (by decide) (sd_in1 (List.mem_of_getElem? (i := 198) rfl))
theorem fRU_162 : sd_fl "SequentDesk$Rules" 162 6 1 := sd_fl1 (r := sR_ST) rfl (by decide) (sd_in1 (List.mem_of_getElem? (i := 170) rfl))
theorem fRU_165 : sd_fl "SequentDesk$Rules" 165 6 0 := sd_fl1 (r := sR_ST) rfl (by decide) (sd_in1 (List.mem_of_getElem? (i := 166) rfl))
theorem fRU_214 : sd_fl "SequentDesk$Rules" 214 7 2 := sd_fl1 (r := sR_TM) rfl (by decide) (sd_in1 (List.mem_of_getElem? (i := 50) rfl))
theorem fRU_228 : sd_fl "SequentDesk$Rules" 228 2 1 := sd_fl1 (r := sR_GL) rfl (by decide) (sd_in2 (List.mem_of_getElem? (i := 4) rfl))
theorem fRU_233 : sd_fl "SequentDesk$Rules" 233 2 0 := sd_fl1 (r := sR_GL) rfl (by decide) (sd_in2 (List.mem_of_getElem? (i := 2) rfl))
theorem fST_9 : sd_fl "SequentDesk$Statement" 9 6 0 := sd_fl1 (r := sR_ST) rfl (by decide) (sd_in1 (List.mem_of_getElem? (i := 163) rfl))
theorem fST_15 : sd_fl "SequentDesk$Statement" 15 6 1 := sd_fl1 (r := sR_ST) rfl (by decide) (sd_in1 (List.mem_of_getElem? (i := 167) rfl))
theorem fST_19 : sd_fl "SequentDesk$Statement" 19 6 2 := sd_fl1 (r := sR_ST) rfl (by decide) (sd_in1 (List.mem_of_getElem? (i := 171) rfl))
theorem fST_22 : sd_fl "SequentDesk$Statement" 22 6 3 := sd_fl1 (r := sR_ST) rfl (by decide) (sd_in1 (List.mem_of_getElem? (i := 175) rfl))
theorem fTM_9 : sd_fl "SequentDesk$Term" 9 7 0 := sd_fl1 (r := sR_TM) rfl (by decide) (sd_in1 (List.mem_of_getElem? (i := 36) rfl))
theorem fTM_15 : sd_fl "SequentDesk$Term" 15 7 1 := sd_fl1 (r := sR_TM) rfl (by decide) (sd_in1 (List.mem_of_getElem? (i := 41) rfl))
theorem fTM_18 : sd_fl "SequentDesk$Term" 18 7 2 := sd_fl1 (r := sR_TM) rfl (by decide) (sd_in1 (List.mem_of_getElem? (i := 46) rfl))
theorem fTM_21 : sd_fl "SequentDesk$Term" 21 7 3 := sd_fl1 (r := sR_TM) rfl (by decide) (sd_in1 (List.mem_of_getElem? (i := 51) rfl))
theorem fTM_25 : sd_fl "SequentDesk$Term" 25 7 4 := sd_fl1 (r := sR_TM) rfl (by decide) (sd_in1 (List.mem_of_getElem? (i := 54) rfl))
theorem fTS_9 : sd_fl "SequentDesk$Terms" 9 8 0 := sd_fl1 (r := sR_TS) rfl (by decide) (sd_in1 (List.mem_of_getElem? (i := 69) rfl))
theorem fTS_17 : sd_fl "SequentDesk$Terms" 17 8 1 := sd_fl1 (r := sR_TS) rfl (by decide) (sd_in1 (List.mem_of_getElem? (i := 73) rfl))
theorem fTS_22 : sd_fl "SequentDesk$Terms" 22 8 3 := sd_fl1 (r := sR_TS) rfl (by decide) (sd_in1 (List.mem_of_getElem? (i := 81) rfl))
theorem fTS_26 : sd_fl "SequentDesk$Terms" 26 8 2 := sd_fl1 (r := sR_TS) rfl (by decide) (sd_in1 (List.mem_of_getElem? (i := 77) rfl))
theorem fTS_39 : sd_fl "SequentDesk$Terms" 39 7 4 := sd_fl1 (r := sR_TM) rfl (by decide) (sd_in1 (List.mem_of_getElem? (i := 55) rfl))
theorem fTS_70 : sd_fl "SequentDesk$Terms" 70 6 1 := sd_fl1 (r := sR_ST) rfl (by decide) (sd_in1 (List.mem_of_getElem? (i := 168) rfl))
theorem fTS_75 : sd_fl "SequentDesk$Terms" 75 6 0 := sd_fl1 (r := sR_ST) rfl (by decide) (sd_in1 (List.mem_of_getElem? (i := 164) rfl))
theorem fTH_10 : sd_fl "SequentDesk$Theorem" 10 9 0 := sd_fl1 (r := sR_TH) rfl (by decide) (sd_in1 (List.mem_of_getElem? (i := 187) rfl))
theorem fMO_7 : sd_fl "SequentDeskModel" 7 10 0 := sd_fl1 (r := sR_MO) rfl (by decide) (sd_in4 (List.mem_of_getElem? (i := 79) rfl))
theorem fMO_13 : sd_fl "SequentDeskModel" 13 10 1 := sd_fl1 (r := sR_MO) rfl (by decide) (sd_in4 (List.mem_of_getElem? (i := 80) rfl))
theorem fMO_16 : sd_fl "SequentDeskModel" 16 10 2 := sd_fl1 (r := sR_MO) rfl (by decide) (sd_in4 (List.mem_of_getElem? (i := 81) rfl))
theorem fMO_19 : sd_fl "SequentDeskModel" 19 10 3 := sd_fl1 (r := sR_MO) rfl (by decide) (sd_in4 (List.mem_of_getElem? (i := 82) rfl))
theorem fMO_22 : sd_fl "SequentDeskModel" 22 10 4 := sd_fl1 (r := sR_MO) rfl (by decide) (sd_in4 (List.mem_of_getElem? (i := 83) rfl))
theorem fMO_25 : sd_fl "SequentDeskModel" 25 10 8 := sd_fl1 (r := sR_MO) rfl (by decide) (sd_in4 (List.mem_of_getElem? (i := 87) rfl))
theorem fMO_28 : sd_fl "SequentDeskModel" 28 10 9 := sd_fl1 (r := sR_MO) rfl (by decide) (sd_in4 (List.mem_of_getElem? (i := 88) rfl))
theorem fMO_31 : sd_fl "SequentDeskModel" 31 10 10 := sd_fl1 (r := sR_MO) rfl (by decide) (sd_in4 (List.mem_of_getElem? (i := 89) rfl))
theorem fMO_34 : sd_fl "SequentDeskModel" 34 10 11 := sd_fl1 (r := sR_MO) rfl (by decide) (sd_in4 (List.mem_of_getElem? (i := 90) rfl))
theorem fMO_37 : sd_fl "SequentDeskModel" 37 10 12 := sd_fl1 (r := sR_MO) rfl (by decide) (sd_in4 (List.mem_of_getElem? (i := 91) rfl))
theorem fMO_40 : sd_fl "SequentDeskModel" 40 10 13 := sd_fl1 (r := sR_MO) rfl (by decide) (sd_in4 (List.mem_of_getElem? (i := 92) rfl))
theorem fMO_43 : sd_fl "SequentDeskModel" 43 10 15 := sd_fl1 (r := sR_MO) rfl (by decide) (sd_in4 (List.mem_of_getElem? (i := 94) rfl))
theorem fMO_46 : sd_fl "SequentDeskModel" 46 10 17 := sd_fl1 (r := sR_MO) rfl (by decide) (sd_in4 (List.mem_of_getElem? (i := 96) rfl))
theorem fMO_49 : sd_fl "SequentDeskModel" 49 10 18 := sd_fl1 (r := sR_MO) rfl (by decide) (sd_in4 (List.mem_of_getElem? (i := 97) rfl))
theorem fMO_52 : sd_fl "SequentDeskModel" 52 10 19 := sd_fl1 (r := sR_MO) rfl (by decide) (sd_in4 (List.mem_of_getElem? (i := 98) rfl))
theorem fMO_55 : sd_fl "SequentDeskModel" 55 10 20 := sd_fl1 (r := sR_MO) rfl (by decide) (sd_in4 (List.mem_of_getElem? (i := 99) rfl))
theorem fMO_58 : sd_fl "SequentDeskModel" 58 10 21 := sd_fl1 (r := sR_MO) rfl (by decide) (sd_in4 (List.mem_of_getElem? (i := 100) rfl))
theorem fMO_61 : sd_fl "SequentDeskModel" 61 10 22 := sd_fl1 (r := sR_MO) rfl (by decide) (sd_in4 (List.mem_of_getElem? (i := 101) rfl))
theorem fMO_64 : sd_fl "SequentDeskModel" 64 10 23 := sd_fl1 (r := sR_MO) rfl (by decide) (sd_in4 (List.mem_of_getElem? (i := 102) rfl))
theorem fMO_67 : sd_fl "SequentDeskModel" 67 10 24 := sd_fl1 (r := sR_MO) rfl (by decide) (sd_in4 (List.mem_of_getElem? (i := 103) rfl))
theorem fMO_70 : sd_fl "SequentDeskModel" 70 10 25 := sd_fl1 (r := sR_MO) rfl (by decide) (sd_in4 (List.mem_of_getElem? (i := 104) rfl))
theorem fMO_73 : sd_fl "SequentDeskModel" 73 10 26 := sd_fl1 (r := sR_MO) rfl (by decide) (sd_in4 (List.mem_of_getElem? (i := 105) rfl))
theorem fMO_76 : sd_fl "SequentDeskModel" 76 10 30 := sd_fl1 (r := sR_MO) rfl (by decide) (sd_in4 (List.mem_of_getElem? (i := 109) rfl))
theorem fMO_79 : sd_fl "SequentDeskModel" 79 10 31 := sd_fl1 (r := sR_MO) rfl (by decide) (sd_in4 (List.mem_of_getElem? (i := 110) rfl))
theorem fMO_82 : sd_fl "SequentDeskModel" 82 10 32 := sd_fl1 (r := sR_MO) rfl (by decide) (sd_in4 (List.mem_of_getElem? (i := 111) rfl))
theorem fMO_85 : sd_fl "SequentDeskModel" 85 10 33 := sd_fl1 (r := sR_MO) rfl (by decide) (sd_in4 (List.mem_of_getElem? (i := 112) rfl))
theorem fMO_88 : sd_fl "SequentDeskModel" 88 10 34 := sd_fl1 (r := sR_MO) rfl (by decide) (sd_in4 (List.mem_of_getElem? (i := 113) rfl))
theorem fMO_91 : sd_fl "SequentDeskModel" 91 10 35 := sd_fl1 (r := sR_MO) rfl (by decide) (sd_in4 (List.mem_of_getElem? (i := 114) rfl))
theorem fMO_94 : sd_fl "SequentDeskModel" 94 10 36 := sd_fl1 (r := sR_MO) rfl (by decide) (sd_in4 (List.mem_of_getElem? (i := 115) rfl))
theorem fMO_117 : sd_fl "SequentDeskModel" 117 10 5 := sd_fl1 (r := sR_MO) rfl (by decide) (sd_in4 (List.mem_of_getElem? (i := 84) rfl))
theorem fMO_124 : sd_fl "SequentDeskModel" 124 10 7 := sd_fl1 (r := sR_MO) rfl (by decide) (sd_in4 (List.mem_of_getElem? (i := 86) rfl))
theorem fMO_148 : sd_fl "SequentDeskModel" 148 10 14 := sd_fl1 (r := sR_MO) rfl (by decide) (sd_in4 (List.mem_of_getElem? (i := 93) rfl))
theorem fMO_158 : sd_fl "SequentDeskModel" 158 10 6 := sd_fl1 (r := sR_MO) rfl (by decide) (sd_in4 (List.mem_of_getElem? (i := 85) rfl))
theorem fMO_161 : sd_fl "SequentDeskModel" 161 10 37 := sd_fl1 (r := sR_MO) rfl (by decide) (sd_in4 (List.mem_of_getElem? (i := 116) rfl))
theorem fMO_213 : sd_fl "SequentDeskModel" 213 10 16 := sd_fl1 (r := sR_MO) rfl (by decide) (sd_in4 (List.mem_of_getElem? (i := 95) rfl))
theorem fMO_270 : sd_fl "SequentDeskModel" 270 10 27 := sd_fl1 (r := sR_MO) rfl (by decide) (sd_in4 (List.mem_of_getElem? (i := 106) rfl))
theorem fMO_273 : sd_fl "SequentDeskModel" 273 10 28 := sd_fl1 (r := sR_MO) rfl (by decide) (sd_in4 (List.mem_of_getElem? (i := 107) rfl))
theorem fMO_275 : sd_fl "SequentDeskModel" 275 10 29 := sd_fl1 (r := sR_MO) rfl (by decide) (sd_in4 (List.mem_of_getElem? (i := 108) rfl))
theorem kDK_9 : sd_ml "SequentDesk" 9 mTS_init 0 := ⟨Or.inl (sd_memT (sd_in1 (List.mem_of_getElem? (i := 25) rfl)) rfl), mTS_init_c, (sd_memT (sd_in1 (List.mem_of_getElem? (i := 2) rfl)) rfl), by decide +kernel, by decide⟩
theorem kDK_18 : sd_ml "SequentDesk" 18 mDR_init 0 := ⟨Or.inr ⟨"SequentDesk", (sd_nT (sd_in1 (List.mem_of_getElem? (i := 93) rfl)) rfl)⟩, mDR_init_c, (sd_memT (sd_in1 (List.mem_of_getElem? (i := 4) rfl)) rfl), by decide +kernel, by decide⟩
theorem kDK_25 : sd_ml "SequentDesk" 25 mIN_init 0 := ⟨Or.inr ⟨"SequentDesk", (sd_nT (sd_in1 (List.mem_of_getElem? (i := 112) rfl)) rfl)⟩, mIN_init_c, (sd_memT (sd_in1 (List.mem_of_getElem? (i := 5) rfl)) rfl), by decide +kernel, by decide⟩
theorem kDK_32 : sd_ml "SequentDesk" 32 mRU_init 1 := ⟨Or.inl (sd_memT (sd_in1 (List.mem_of_getElem? (i := 146) rfl)) rfl), mRU_init_c, (sd_memT (sd_in1 (List.mem_of_getElem? (i := 6) rfl)) rfl), by decide +kernel, by decide⟩
theorem kDK_41 : sd_ml "SequentDesk" 41 mGS_init 2 := ⟨Or.inl (sd_memT (sd_in1 (List.mem_of_getElem? (i := 226) rfl)) rfl), mGS_init_c, (sd_memT (sd_in1 (List.mem_of_getElem? (i := 9) rfl)) rfl), by decide +kernel, by decide⟩
theorem kDK_48 : sd_ml "SequentDesk" 48 mTY_isType 1 := ⟨Or.inl (sd_memT (sd_in2 (List.mem_of_getElem? (i := 63) rfl)) rfl), mTY_isType_c, (sd_memT (sd_in1 (List.mem_of_getElem? (i := 12) rfl)) rfl), by decide +kernel, by decide⟩
theorem kDK_54 : sd_ml "SequentDesk" 54 mTY_join 2 := ⟨Or.inl (sd_memT (sd_in2 (List.mem_of_getElem? (i := 72) rfl)) rfl), mTY_join_c, (sd_memT (sd_in1 (List.mem_of_getElem? (i := 12) rfl)) rfl), by decide +kernel, by decide⟩
theorem kDK_58 : sd_ml "SequentDesk" 58 mDK_isName 1 := ⟨Or.inl (sd_memT (sd_in2 (List.mem_of_getElem? (i := 79) rfl)) rfl), mDK_isName_c, (sd_memT (sd_in1 (List.mem_of_getElem? (i := 1) rfl)) rfl), by decide +kernel, by decide⟩
theorem kDK_75 : sd_ml "SequentDesk" 75 mDR_isWhole 0 := ⟨Or.inl (sd_memT (sd_in2 (List.mem_of_getElem? (i := 94) rfl)) rfl), mDR_isWhole_c, (sd_memT (sd_in1 (List.mem_of_getElem? (i := 4) rfl)) rfl), by decide +kernel, by decide⟩
theorem kDK_79 : sd_ml "SequentDesk" 79 mTS_fresh 0 := ⟨Or.inl (sd_memT (sd_in2 (List.mem_of_getElem? (i := 107) rfl)) rfl), mTS_fresh_c, (sd_memT (sd_in1 (List.mem_of_getElem? (i := 2) rfl)) rfl), by decide +kernel, by decide⟩
theorem kDK_83 : sd_ml "SequentDesk" 83 mDR_writeTo 1 := ⟨Or.inl (sd_memT (sd_in2 (List.mem_of_getElem? (i := 116) rfl)) rfl), mDR_writeTo_c, (sd_memT (sd_in1 (List.mem_of_getElem? (i := 4) rfl)) rfl), by decide +kernel, by decide⟩
theorem kDK_90 : sd_ml "SequentDesk" 90 mIN_giveTypes 3 := ⟨Or.inl (sd_memT (sd_in2 (List.mem_of_getElem? (i := 138) rfl)) rfl), mIN_giveTypes_c, (sd_memT (sd_in1 (List.mem_of_getElem? (i := 5) rfl)) rfl), by decide +kernel, by decide⟩
theorem kDK_94 : sd_ml "SequentDesk" 94 mTS_keep 0 := ⟨Or.inl (sd_memT (sd_in2 (List.mem_of_getElem? (i := 197) rfl)) rfl), mTS_keep_c, (sd_memT (sd_in1 (List.mem_of_getElem? (i := 2) rfl)) rfl), by decide +kernel, by decide⟩
theorem kDK_98 : sd_ml "SequentDesk" 98 mTS_overfull 0 := ⟨Or.inl (sd_memT (sd_in2 (List.mem_of_getElem? (i := 205) rfl)) rfl), mTS_overfull_c, (sd_memT (sd_in1 (List.mem_of_getElem? (i := 2) rfl)) rfl), by decide +kernel, by decide⟩
theorem kDK_101 : sd_ml "SequentDesk" 101 mTS_has 1 := ⟨Or.inl (sd_memT (sd_in2 (List.mem_of_getElem? (i := 213) rfl)) rfl), mTS_has_c, (sd_memT (sd_in1 (List.mem_of_getElem? (i := 2) rfl)) rfl), by decide +kernel, by decide⟩
theorem kDK_114 : sd_ml "SequentDesk" 114 mTM_names 0 := ⟨Or.inl (sd_memT (sd_in2 (List.mem_of_getElem? (i := 217) rfl)) rfl), mTM_names_c, (sd_memT (sd_in1 (List.mem_of_getElem? (i := 3) rfl)) rfl), by decide +kernel, by decide⟩
theorem kDK_117 : sd_ml "SequentDesk" 117 mTM_deepness 0 := ⟨Or.inl (sd_memT (sd_in2 (List.mem_of_getElem? (i := 221) rfl)) rfl), mTM_deepness_c, (sd_memT (sd_in1 (List.mem_of_getElem? (i := 3) rfl)) rfl), by decide +kernel, by decide⟩
theorem kDK_123 : sd_ml "SequentDesk" 123 mRU_make 4 := ⟨Or.inl (sd_memT (sd_in2 (List.mem_of_getElem? (i := 236) rfl)) rfl), mRU_make_c, (sd_memT (sd_in1 (List.mem_of_getElem? (i := 6) rfl)) rfl), by decide +kernel, by decide⟩
theorem kDK_127 : sd_ml "SequentDesk" 127 mRU_has 1 := ⟨Or.inl (sd_memT (sd_in3 (List.mem_of_getElem? (i := 147) rfl)) rfl), mRU_has_c, (sd_memT (sd_in1 (List.mem_of_getElem? (i := 6) rfl)) rfl), by decide +kernel, by decide⟩
theorem kDK_158 : sd_ml "SequentDesk" 158 mLO_bitCount 1 := ⟨Or.inl (sd_memT (sd_in3 (List.mem_of_getElem? (i := 148) rfl)) rfl), mLO_bitCount_c, (sd_memT (sd_in1 (List.mem_of_getElem? (i := 14) rfl)) rfl), by decide +kernel, by decide⟩
theorem kDK_167 : sd_ml "SequentDesk" 167 mGS_beginWith 1 := ⟨Or.inl (sd_memT (sd_in3 (List.mem_of_getElem? (i := 162) rfl)) rfl), mGS_beginWith_c, (sd_memT (sd_in1 (List.mem_of_getElem? (i := 9) rfl)) rfl), by decide +kernel, by decide⟩
theorem kDK_174 : sd_ml "SequentDesk" 174 mGS_attempt 2 := ⟨Or.inl (sd_memT (sd_in3 (List.mem_of_getElem? (i := 176) rfl)) rfl), mGS_attempt_c, (sd_memT (sd_in1 (List.mem_of_getElem? (i := 9) rfl)) rfl), by decide +kernel, by decide⟩
theorem kDK_177 : sd_ml "SequentDesk" 177 mGS_takeBack 0 := ⟨Or.inl (sd_memT (sd_in4 (List.mem_of_getElem? (i := 32) rfl)) rfl), mGS_takeBack_c, (sd_memT (sd_in1 (List.mem_of_getElem? (i := 9) rfl)) rfl), by decide +kernel, by decide⟩
theorem kDK_180 : sd_ml "SequentDesk" 180 mDK_advance 0 := ⟨Or.inl (sd_memT (sd_in4 (List.mem_of_getElem? (i := 40) rfl)) rfl), mDK_advance_c, (sd_memT (sd_in1 (List.mem_of_getElem? (i := 1) rfl)) rfl), by decide +kernel, by decide⟩
theorem kDK_189 : sd_ml "SequentDesk" 189 mGS_openGoal 1 := ⟨Or.inl (sd_memT (sd_in4 (List.mem_of_getElem? (i := 52) rfl)) rfl), mGS_openGoal_c, (sd_memT (sd_in1 (List.mem_of_getElem? (i := 9) rfl)) rfl), by decide +kernel, by decide⟩
theorem kDK_198 : sd_ml "SequentDesk" 198 mGS_finish 0 := ⟨Or.inl (sd_memT (sd_in4 (List.mem_of_getElem? (i := 57) rfl)) rfl), mGS_finish_c, (sd_memT (sd_in1 (List.mem_of_getElem? (i := 9) rfl)) rfl), by decide +kernel, by decide⟩
theorem kDR_22 : sd_ml "SequentDesk$Draft" 22 mDR_symbolOf 1 := ⟨Or.inl (sd_memT (sd_in2 (List.mem_of_getElem? (i := 98) rfl)) rfl), mDR_symbolOf_c, (sd_memT (sd_in1 (List.mem_of_getElem? (i := 4) rfl)) rfl), by decide +kernel, by decide⟩
theorem kDR_26 : sd_ml "SequentDesk$Draft" 26 mTM_partsOf 1 := ⟨Or.inl (sd_memT (sd_in2 (List.mem_of_getElem? (i := 104) rfl)) rfl), mTM_partsOf_c, (sd_memT (sd_in1 (List.mem_of_getElem? (i := 3) rfl)) rfl), by decide +kernel, by decide⟩
theorem kDR_31 : sd_ml "SequentDesk$Draft" 31 mMA_min 2 := ⟨Or.inl (sd_memT (sd_in2 (List.mem_of_getElem? (i := 101) rfl)) rfl), mMA_min_c, (sd_memT (sd_in1 (List.mem_of_getElem? (i := 13) rfl)) rfl), by decide +kernel, by decide⟩
theorem kDR_37 : sd_ml "SequentDesk$Draft" 37 mTM_add 2 := ⟨Or.inl (sd_memT (sd_in2 (List.mem_of_getElem? (i := 120) rfl)) rfl), mTM_add_c, (sd_memT (sd_in1 (List.mem_of_getElem? (i := 3) rfl)) rfl), by decide +kernel, by decide⟩
theorem kDR_41 : sd_ml "SequentDesk$Draft" 41 mTM_settle 0 := ⟨Or.inl (sd_memT (sd_in2 (List.mem_of_getElem? (i := 124) rfl)) rfl), mTM_settle_c, (sd_memT (sd_in1 (List.mem_of_getElem? (i := 3) rfl)) rfl), by decide +kernel, by decide⟩
theorem kDR_44 : sd_ml "SequentDesk$Draft" 44 mDK_isName 1 := ⟨Or.inr ⟨"SequentDesk", (sd_nT (sd_in2 (List.mem_of_getElem? (i := 129) rfl)) rfl)⟩, mDK_isName_c, (sd_memT (sd_in1 (List.mem_of_getElem? (i := 1) rfl)) rfl), by decide +kernel, by decide⟩
theorem kDR_48 : sd_ml "SequentDesk$Draft" 48 mDR_binderOf 2 := ⟨Or.inl (sd_memT (sd_in2 (List.mem_of_getElem? (i := 130) rfl)) rfl), mDR_binderOf_c, (sd_memT (sd_in1 (List.mem_of_getElem? (i := 4) rfl)) rfl), by decide +kernel, by decide⟩
theorem kDR_55 : sd_ml "SequentDesk$Draft" 55 mTM_lambdasAround 2 := ⟨Or.inl (sd_memT (sd_in2 (List.mem_of_getElem? (i := 134) rfl)) rfl), mTM_lambdasAround_c, (sd_memT (sd_in1 (List.mem_of_getElem? (i := 3) rfl)) rfl), by decide +kernel, by decide⟩
theorem kGL_9 : sd_ml "SequentDesk$Goal" 9 mST_init 0 := ⟨Or.inr ⟨"SequentDesk", (sd_nT (sd_in1 (List.mem_of_getElem? (i := 238) rfl)) rfl)⟩, mST_init_c, (sd_memT (sd_in1 (List.mem_of_getElem? (i := 8) rfl)) rfl), by decide +kernel, by decide⟩
theorem kGS_32 : sd_ml "SequentDesk$Goals" 32 mGL_init 0 := ⟨Or.inr ⟨"SequentDesk", (sd_nT (sd_in1 (List.mem_of_getElem? (i := 233) rfl)) rfl)⟩, mGL_init_c, (sd_memT (sd_in1 (List.mem_of_getElem? (i := 10) rfl)) rfl), by decide +kernel, by decide⟩
theorem kGS_43 : sd_ml "SequentDesk$Goals" 43 mGS_drop 0 := ⟨Or.inl (sd_memT (sd_in3 (List.mem_of_getElem? (i := 166) rfl)) rfl), mGS_drop_c, (sd_memT (sd_in1 (List.mem_of_getElem? (i := 9) rfl)) rfl), by decide +kernel, by decide⟩
theorem kGS_50 : sd_ml "SequentDesk$Goals" 50 mST_begin 0 := ⟨Or.inl (sd_memT (sd_in3 (List.mem_of_getElem? (i := 170) rfl)) rfl), mST_begin_c, (sd_memT (sd_in1 (List.mem_of_getElem? (i := 8) rfl)) rfl), by decide +kernel, by decide⟩
theorem kGS_55 : sd_ml "SequentDesk$Goals" 55 mST_conclude 1 := ⟨Or.inl (sd_memT (sd_in3 (List.mem_of_getElem? (i := 171) rfl)) rfl), mST_conclude_c, (sd_memT (sd_in1 (List.mem_of_getElem? (i := 8) rfl)) rfl), by decide +kernel, by decide⟩
theorem kGS_59 : sd_ml "SequentDesk$Goals" 59 mGS_isThere 2 := ⟨Or.inl (sd_memT (sd_in3 (List.mem_of_getElem? (i := 180) rfl)) rfl), mGS_isThere_c, (sd_memT (sd_in1 (List.mem_of_getElem? (i := 9) rfl)) rfl), by decide +kernel, by decide⟩
theorem kGS_63 : sd_ml "SequentDesk$Goals" 63 mGS_openGoal 1 := ⟨Or.inl (sd_memT (sd_in3 (List.mem_of_getElem? (i := 187) rfl)) rfl), mGS_openGoal_c, (sd_memT (sd_in1 (List.mem_of_getElem? (i := 9) rfl)) rfl), by decide +kernel, by decide⟩
theorem kGS_67 : sd_ml "SequentDesk$Goals" 67 mGS_fits 3 := ⟨Or.inl (sd_memT (sd_in3 (List.mem_of_getElem? (i := 191) rfl)) rfl), mGS_fits_c, (sd_memT (sd_in1 (List.mem_of_getElem? (i := 9) rfl)) rfl), by decide +kernel, by decide⟩
theorem kGS_74 : sd_ml "SequentDesk$Goals" 74 mGS_leave 3 := ⟨Or.inl (sd_memT (sd_in3 (List.mem_of_getElem? (i := 224) rfl)) rfl), mGS_leave_c, (sd_memT (sd_in1 (List.mem_of_getElem? (i := 9) rfl)) rfl), by decide +kernel, by decide⟩
theorem kGS_78 : sd_ml "SequentDesk$Goals" 78 mGS_leftBig 1 := ⟨Or.inl (sd_memT (sd_in4 (List.mem_of_getElem? (i := 17) rfl)) rfl), mGS_leftBig_c, (sd_memT (sd_in1 (List.mem_of_getElem? (i := 9) rfl)) rfl), by decide +kernel, by decide⟩
theorem kGS_82 : sd_ml "SequentDesk$Goals" 82 mTS_overfull 0 := ⟨Or.inl (sd_memT (sd_in4 (List.mem_of_getElem? (i := 23) rfl)) rfl), mTS_overfull_c, (sd_memT (sd_in1 (List.mem_of_getElem? (i := 2) rfl)) rfl), by decide +kernel, by decide⟩
theorem kGS_89 : sd_ml "SequentDesk$Goals" 89 mGS_take 2 := ⟨Or.inl (sd_memT (sd_in4 (List.mem_of_getElem? (i := 24) rfl)) rfl), mGS_take_c, (sd_memT (sd_in1 (List.mem_of_getElem? (i := 9) rfl)) rfl), by decide +kernel, by decide⟩
theorem kGS_93 : sd_ml "SequentDesk$Goals" 93 mTS_has 1 := ⟨Or.inl (sd_memT (sd_in3 (List.mem_of_getElem? (i := 184) rfl)) rfl), mTS_has_c, (sd_memT (sd_in1 (List.mem_of_getElem? (i := 2) rfl)) rfl), by decide +kernel, by decide⟩
theorem kGS_96 : sd_ml "SequentDesk$Goals" 96 mDK_isName 1 := ⟨Or.inr ⟨"SequentDesk", (sd_nT (sd_in3 (List.mem_of_getElem? (i := 185) rfl)) rfl)⟩, mDK_isName_c, (sd_memT (sd_in1 (List.mem_of_getElem? (i := 1) rfl)) rfl), by decide +kernel, by decide⟩
theorem kGS_99 : sd_ml "SequentDesk$Goals" 99 mRU_has 1 := ⟨Or.inl (sd_memT (sd_in3 (List.mem_of_getElem? (i := 186) rfl)) rfl), mRU_has_c, (sd_memT (sd_in1 (List.mem_of_getElem? (i := 6) rfl)) rfl), by decide +kernel, by decide⟩
theorem kGS_108 : sd_ml "SequentDesk$Goals" 108 mTM_isEquation 0 := ⟨Or.inl (sd_memT (sd_in3 (List.mem_of_getElem? (i := 195) rfl)) rfl), mTM_isEquation_c, (sd_memT (sd_in1 (List.mem_of_getElem? (i := 3) rfl)) rfl), by decide +kernel, by decide⟩
theorem kGS_113 : sd_ml "SequentDesk$Goals" 113 mTM_right 0 := ⟨Or.inl (sd_memT (sd_in3 (List.mem_of_getElem? (i := 196) rfl)) rfl), mTM_right_c, (sd_memT (sd_in1 (List.mem_of_getElem? (i := 3) rfl)) rfl), by decide +kernel, by decide⟩
theorem kGS_117 : sd_ml "SequentDesk$Goals" 117 mTM_alike 4 := ⟨Or.inl (sd_memT (sd_in3 (List.mem_of_getElem? (i := 197) rfl)) rfl), mTM_alike_c, (sd_memT (sd_in1 (List.mem_of_getElem? (i := 3) rfl)) rfl), by decide +kernel, by decide⟩
theorem kGS_121 : sd_ml "SequentDesk$Goals" 121 mST_assumes 1 := ⟨Or.inl (sd_memT (sd_in3 (List.mem_of_getElem? (i := 198) rfl)) rfl), mST_assumes_c, (sd_memT (sd_in1 (List.mem_of_getElem? (i := 8) rfl)) rfl), by decide +kernel, by decide⟩
theorem kGS_127 : sd_ml "SequentDesk$Goals" 127 mGS_canSplit 1 := ⟨Or.inl (sd_memT (sd_in3 (List.mem_of_getElem? (i := 199) rfl)) rfl), mGS_canSplit_c, (sd_memT (sd_in1 (List.mem_of_getElem? (i := 9) rfl)) rfl), by decide +kernel, by decide⟩
theorem kGS_131 : sd_ml "SequentDesk$Goals" 131 mGS_canName 3 := ⟨Or.inl (sd_memT (sd_in3 (List.mem_of_getElem? (i := 202) rfl)) rfl), mGS_canName_c, (sd_memT (sd_in1 (List.mem_of_getElem? (i := 9) rfl)) rfl), by decide +kernel, by decide⟩
theorem kGS_135 : sd_ml "SequentDesk$Goals" 135 mTM_isRedex 1 := ⟨Or.inl (sd_memT (sd_in3 (List.mem_of_getElem? (i := 209) rfl)) rfl), mTM_isRedex_c, (sd_memT (sd_in1 (List.mem_of_getElem? (i := 3) rfl)) rfl), by decide +kernel, by decide⟩
theorem kGS_138 : sd_ml "SequentDesk$Goals" 138 mGS_isReduced 1 := ⟨Or.inl (sd_memT (sd_in3 (List.mem_of_getElem? (i := 210) rfl)) rfl), mGS_isReduced_c, (sd_memT (sd_in1 (List.mem_of_getElem? (i := 9) rfl)) rfl), by decide +kernel, by decide⟩
theorem kGS_149 : sd_ml "SequentDesk$Goals" 149 mGS_isExact 2 := ⟨Or.inl (sd_memT (sd_in3 (List.mem_of_getElem? (i := 217) rfl)) rfl), mGS_isExact_c, (sd_memT (sd_in1 (List.mem_of_getElem? (i := 9) rfl)) rfl), by decide +kernel, by decide⟩
theorem kGS_159 : sd_ml "SequentDesk$Goals" 159 mTY_from 1 := ⟨Or.inl (sd_memT (sd_in3 (List.mem_of_getElem? (i := 206) rfl)) rfl), mTY_from_c, (sd_memT (sd_in1 (List.mem_of_getElem? (i := 12) rfl)) rfl), by decide +kernel, by decide⟩
theorem kGS_165 : sd_ml "SequentDesk$Goals" 165 mTM_hasName 1 := ⟨Or.inl (sd_memT (sd_in3 (List.mem_of_getElem? (i := 207) rfl)) rfl), mTM_hasName_c, (sd_memT (sd_in1 (List.mem_of_getElem? (i := 3) rfl)) rfl), by decide +kernel, by decide⟩
theorem kGS_168 : sd_ml "SequentDesk$Goals" 168 mTS_inHypotheses 2 := ⟨Or.inl (sd_memT (sd_in3 (List.mem_of_getElem? (i := 208) rfl)) rfl), mTS_inHypotheses_c, (sd_memT (sd_in1 (List.mem_of_getElem? (i := 2) rfl)) rfl), by decide +kernel, by decide⟩
theorem kGS_172 : sd_ml "SequentDesk$Goals" 172 mTS_fresh 0 := ⟨Or.inl (sd_memT (sd_in3 (List.mem_of_getElem? (i := 214) rfl)) rfl), mTS_fresh_c, (sd_memT (sd_in1 (List.mem_of_getElem? (i := 2) rfl)) rfl), by decide +kernel, by decide⟩
theorem kGS_179 : sd_ml "SequentDesk$Goals" 179 mTM_addFilled 4 := ⟨Or.inl (sd_memT (sd_in3 (List.mem_of_getElem? (i := 215) rfl)) rfl), mTM_addFilled_c, (sd_memT (sd_in1 (List.mem_of_getElem? (i := 3) rfl)) rfl), by decide +kernel, by decide⟩
theorem kGS_187 : sd_ml "SequentDesk$Goals" 187 mTM_settle 0 := ⟨Or.inl (sd_memT (sd_in3 (List.mem_of_getElem? (i := 216) rfl)) rfl), mTM_settle_c, (sd_memT (sd_in1 (List.mem_of_getElem? (i := 3) rfl)) rfl), by decide +kernel, by decide⟩
theorem kGS_190 : sd_ml "SequentDesk$Goals" 190 mST_assumesThoseOf 1 := ⟨Or.inl (sd_memT (sd_in3 (List.mem_of_getElem? (i := 220) rfl)) rfl), mST_assumesThoseOf_c, (sd_memT (sd_in1 (List.mem_of_getElem? (i := 8) rfl)) rfl), by decide +kernel, by decide⟩
theorem kGS_194 : sd_ml "SequentDesk$Goals" 194 mGS_heir 2 := ⟨Or.inl (sd_memT (sd_in3 (List.mem_of_getElem? (i := 228) rfl)) rfl), mGS_heir_c, (sd_memT (sd_in1 (List.mem_of_getElem? (i := 9) rfl)) rfl), by decide +kernel, by decide⟩
theorem kGS_198 : sd_ml "SequentDesk$Goals" 198 mTS_keepEquation 4 := ⟨Or.inl (sd_memT (sd_in3 (List.mem_of_getElem? (i := 233) rfl)) rfl), mTS_keepEquation_c, (sd_memT (sd_in1 (List.mem_of_getElem? (i := 2) rfl)) rfl), by decide +kernel, by decide⟩
theorem kGS_202 : sd_ml "SequentDesk$Goals" 202 mTS_nameRow 1 := ⟨Or.inl (sd_memT (sd_in4 (List.mem_of_getElem? (i := 0) rfl)) rfl), mTS_nameRow_c, (sd_memT (sd_in1 (List.mem_of_getElem? (i := 2) rfl)) rfl), by decide +kernel, by decide⟩
theorem kGS_206 : sd_ml "SequentDesk$Goals" 206 mGS_keepBodies 2 := ⟨Or.inl (sd_memT (sd_in4 (List.mem_of_getElem? (i := 5) rfl)) rfl), mGS_keepBodies_c, (sd_memT (sd_in1 (List.mem_of_getElem? (i := 9) rfl)) rfl), by decide +kernel, by decide⟩
theorem kGS_210 : sd_ml "SequentDesk$Goals" 210 mTS_keepPart 2 := ⟨Or.inl (sd_memT (sd_in4 (List.mem_of_getElem? (i := 11) rfl)) rfl), mTS_keepPart_c, (sd_memT (sd_in1 (List.mem_of_getElem? (i := 2) rfl)) rfl), by decide +kernel, by decide⟩
theorem kGS_214 : sd_ml "SequentDesk$Goals" 214 mST_assume 1 := ⟨Or.inl (sd_memT (sd_in4 (List.mem_of_getElem? (i := 16) rfl)) rfl), mST_assume_c, (sd_memT (sd_in1 (List.mem_of_getElem? (i := 8) rfl)) rfl), by decide +kernel, by decide⟩
theorem kGS_217 : sd_ml "SequentDesk$Goals" 217 mST_assumeThoseOf 1 := ⟨Or.inl (sd_memT (sd_in3 (List.mem_of_getElem? (i := 232) rfl)) rfl), mST_assumeThoseOf_c, (sd_memT (sd_in1 (List.mem_of_getElem? (i := 8) rfl)) rfl), by decide +kernel, by decide⟩
theorem kGS_221 : sd_ml "SequentDesk$Goals" 221 mTM_add 2 := ⟨Or.inl (sd_memT (sd_in4 (List.mem_of_getElem? (i := 9) rfl)) rfl), mTM_add_c, (sd_memT (sd_in1 (List.mem_of_getElem? (i := 3) rfl)) rfl), by decide +kernel, by decide⟩
theorem kGS_224 : sd_ml "SequentDesk$Goals" 224 mTS_keep 0 := ⟨Or.inl (sd_memT (sd_in4 (List.mem_of_getElem? (i := 10) rfl)) rfl), mTS_keep_c, (sd_memT (sd_in1 (List.mem_of_getElem? (i := 2) rfl)) rfl), by decide +kernel, by decide⟩
theorem kGS_238 : sd_ml "SequentDesk$Goals" 238 mGS_prove 2 := ⟨Or.inl (sd_memT (sd_in4 (List.mem_of_getElem? (i := 61) rfl)) rfl), mGS_prove_c, (sd_memT (sd_in1 (List.mem_of_getElem? (i := 9) rfl)) rfl), by decide +kernel, by decide⟩
theorem kGS_242 : sd_ml "SequentDesk$Goals" 242 mRU_makeFor 3 := ⟨Or.inl (sd_memT (sd_in4 (List.mem_of_getElem? (i := 65) rfl)) rfl), mRU_makeFor_c, (sd_memT (sd_in1 (List.mem_of_getElem? (i := 6) rfl)) rfl), by decide +kernel, by decide⟩
theorem kIN_33 : sd_ml "SequentDesk$Inference" 33 mIN_begin 0 := ⟨Or.inl (sd_memT (sd_in2 (List.mem_of_getElem? (i := 142) rfl)) rfl), mIN_begin_c, (sd_memT (sd_in1 (List.mem_of_getElem? (i := 5) rfl)) rfl), by decide +kernel, by decide⟩
theorem kIN_42 : sd_ml "SequentDesk$Inference" 42 mIN_variableOf 1 := ⟨Or.inl (sd_memT (sd_in2 (List.mem_of_getElem? (i := 146) rfl)) rfl), mIN_variableOf_c, (sd_memT (sd_in1 (List.mem_of_getElem? (i := 5) rfl)) rfl), by decide +kernel, by decide⟩
theorem kIN_46 : sd_ml "SequentDesk$Inference" 46 mIN_equate 2 := ⟨Or.inl (sd_memT (sd_in2 (List.mem_of_getElem? (i := 149) rfl)) rfl), mIN_equate_c, (sd_memT (sd_in1 (List.mem_of_getElem? (i := 5) rfl)) rfl), by decide +kernel, by decide⟩
theorem kIN_50 : sd_ml "SequentDesk$Inference" 50 mIN_demand 3 := ⟨Or.inl (sd_memT (sd_in2 (List.mem_of_getElem? (i := 153) rfl)) rfl), mIN_demand_c, (sd_memT (sd_in1 (List.mem_of_getElem? (i := 5) rfl)) rfl), by decide +kernel, by decide⟩
theorem kIN_54 : sd_ml "SequentDesk$Inference" 54 mIN_solve 0 := ⟨Or.inl (sd_memT (sd_in2 (List.mem_of_getElem? (i := 176) rfl)) rfl), mIN_solve_c, (sd_memT (sd_in1 (List.mem_of_getElem? (i := 5) rfl)) rfl), by decide +kernel, by decide⟩
theorem kIN_58 : sd_ml "SequentDesk$Inference" 58 mIN_workOut 0 := ⟨Or.inl (sd_memT (sd_in2 (List.mem_of_getElem? (i := 184) rfl)) rfl), mIN_workOut_c, (sd_memT (sd_in1 (List.mem_of_getElem? (i := 5) rfl)) rfl), by decide +kernel, by decide⟩
theorem kIN_61 : sd_ml "SequentDesk$Inference" 61 mIN_firstRefusal 0 := ⟨Or.inl (sd_memT (sd_in2 (List.mem_of_getElem? (i := 193) rfl)) rfl), mIN_firstRefusal_c, (sd_memT (sd_in1 (List.mem_of_getElem? (i := 5) rfl)) rfl), by decide +kernel, by decide⟩
theorem kIN_68 : sd_ml "SequentDesk$Inference" 68 mIN_root 1 := ⟨Or.inl (sd_memT (sd_in2 (List.mem_of_getElem? (i := 180) rfl)) rfl), mIN_root_c, (sd_memT (sd_in1 (List.mem_of_getElem? (i := 5) rfl)) rfl), by decide +kernel, by decide⟩
theorem kIN_83 : sd_ml "SequentDesk$Inference" 83 mIN_functionNode 2 := ⟨Or.inl (sd_memT (sd_in2 (List.mem_of_getElem? (i := 157) rfl)) rfl), mIN_functionNode_c, (sd_memT (sd_in1 (List.mem_of_getElem? (i := 5) rfl)) rfl), by decide +kernel, by decide⟩
theorem kIN_87 : sd_ml "SequentDesk$Inference" 87 mDK_isName 1 := ⟨Or.inr ⟨"SequentDesk", (sd_nT (sd_in2 (List.mem_of_getElem? (i := 162) rfl)) rfl)⟩, mDK_isName_c, (sd_memT (sd_in1 (List.mem_of_getElem? (i := 1) rfl)) rfl), by decide +kernel, by decide⟩
theorem kIN_91 : sd_ml "SequentDesk$Inference" 91 mIN_nodeOf 2 := ⟨Or.inl (sd_memT (sd_in2 (List.mem_of_getElem? (i := 163) rfl)) rfl), mIN_nodeOf_c, (sd_memT (sd_in1 (List.mem_of_getElem? (i := 5) rfl)) rfl), by decide +kernel, by decide⟩
theorem kIN_94 : sd_ml "SequentDesk$Inference" 94 mMA_min 2 := ⟨Or.inl (sd_memT (sd_in2 (List.mem_of_getElem? (i := 161) rfl)) rfl), mMA_min_c, (sd_memT (sd_in1 (List.mem_of_getElem? (i := 13) rfl)) rfl), by decide +kernel, by decide⟩
theorem kIN_99 : sd_ml "SequentDesk$Inference" 99 mTY_from 1 := ⟨Or.inl (sd_memT (sd_in2 (List.mem_of_getElem? (i := 167) rfl)) rfl), mTY_from_c, (sd_memT (sd_in1 (List.mem_of_getElem? (i := 12) rfl)) rfl), by decide +kernel, by decide⟩
theorem kIN_104 : sd_ml "SequentDesk$Inference" 104 mTY_to 1 := ⟨Or.inl (sd_memT (sd_in2 (List.mem_of_getElem? (i := 173) rfl)) rfl), mTY_to_c, (sd_memT (sd_in1 (List.mem_of_getElem? (i := 12) rfl)) rfl), by decide +kernel, by decide⟩
theorem kIN_107 : sd_ml "SequentDesk$Inference" 107 mIN_typeOf 1 := ⟨Or.inl (sd_memT (sd_in2 (List.mem_of_getElem? (i := 188) rfl)) rfl), mIN_typeOf_c, (sd_memT (sd_in1 (List.mem_of_getElem? (i := 5) rfl)) rfl), by decide +kernel, by decide⟩
theorem kIN_110 : sd_ml "SequentDesk$Inference" 110 mTY_join 2 := ⟨Or.inl (sd_memT (sd_in2 (List.mem_of_getElem? (i := 192) rfl)) rfl), mTY_join_c, (sd_memT (sd_in1 (List.mem_of_getElem? (i := 12) rfl)) rfl), by decide +kernel, by decide⟩
theorem kRU_21 : sd_ml "SequentDesk$Rules" 21 mTH_init 0 := ⟨Or.inr ⟨"SequentDesk", (sd_nT (sd_in1 (List.mem_of_getElem? (i := 153) rfl)) rfl)⟩, mTH_init_c, (sd_memT (sd_in1 (List.mem_of_getElem? (i := 7) rfl)) rfl), by decide +kernel, by decide⟩
theorem kRU_26 : sd_ml "SequentDesk$Rules" 26 mRU_areThere 4 := ⟨Or.inl (sd_memT (sd_in3 (List.mem_of_getElem? (i := 0) rfl)) rfl), mRU_areThere_c, (sd_memT (sd_in1 (List.mem_of_getElem? (i := 6) rfl)) rfl), by decide +kernel, by decide⟩
theorem kRU_30 : sd_ml "SequentDesk$Rules" 30 mRU_fit 4 := ⟨Or.inl (sd_memT (sd_in3 (List.mem_of_getElem? (i := 10) rfl)) rfl), mRU_fit_c, (sd_memT (sd_in1 (List.mem_of_getElem? (i := 6) rfl)) rfl), by decide +kernel, by decide⟩
theorem kRU_36 : sd_ml "SequentDesk$Rules" 36 mRU_write 4 := ⟨Or.inl (sd_memT (sd_in3 (List.mem_of_getElem? (i := 53) rfl)) rfl), mRU_write_c, (sd_memT (sd_in1 (List.mem_of_getElem? (i := 6) rfl)) rfl), by decide +kernel, by decide⟩
theorem kRU_50 : sd_ml "SequentDesk$Rules" 50 mTS_overfull 0 := ⟨Or.inl (sd_memT (sd_in3 (List.mem_of_getElem? (i := 142) rfl)) rfl), mTS_overfull_c, (sd_memT (sd_in1 (List.mem_of_getElem? (i := 2) rfl)) rfl), by decide +kernel, by decide⟩
theorem kRU_54 : sd_ml "SequentDesk$Rules" 54 mTS_has 1 := ⟨Or.inl (sd_memT (sd_in3 (List.mem_of_getElem? (i := 4) rfl)) rfl), mTS_has_c, (sd_memT (sd_in1 (List.mem_of_getElem? (i := 2) rfl)) rfl), by decide +kernel, by decide⟩
theorem kRU_58 : sd_ml "SequentDesk$Rules" 58 mRU_has 1 := ⟨Or.inl (sd_memT (sd_in3 (List.mem_of_getElem? (i := 5) rfl)) rfl), mRU_has_c, (sd_memT (sd_in1 (List.mem_of_getElem? (i := 6) rfl)) rfl), by decide +kernel, by decide⟩
theorem kRU_59 : sd_ml "SequentDesk$Rules" 59 mDK_isName 1 := ⟨Or.inr ⟨"SequentDesk", (sd_nT (sd_in3 (List.mem_of_getElem? (i := 9) rfl)) rfl)⟩, mDK_isName_c, (sd_memT (sd_in1 (List.mem_of_getElem? (i := 1) rfl)) rfl), by decide +kernel, by decide⟩
theorem kRU_74 : sd_ml "SequentDesk$Rules" 74 mRU_conclusionOf 1 := ⟨Or.inl (sd_memT (sd_in3 (List.mem_of_getElem? (i := 14) rfl)) rfl), mRU_conclusionOf_c, (sd_memT (sd_in1 (List.mem_of_getElem? (i := 6) rfl)) rfl), by decide +kernel, by decide⟩
theorem kRU_78 : sd_ml "SequentDesk$Rules" 78 mRU_canChain 2 := ⟨Or.inl (sd_memT (sd_in3 (List.mem_of_getElem? (i := 18) rfl)) rfl), mRU_canChain_c, (sd_memT (sd_in1 (List.mem_of_getElem? (i := 6) rfl)) rfl), by decide +kernel, by decide⟩
theorem kRU_82 : sd_ml "SequentDesk$Rules" 82 mRU_canCombine 2 := ⟨Or.inl (sd_memT (sd_in3 (List.mem_of_getElem? (i := 30) rfl)) rfl), mRU_canCombine_c, (sd_memT (sd_in1 (List.mem_of_getElem? (i := 6) rfl)) rfl), by decide +kernel, by decide⟩
theorem kRU_85 : sd_ml "SequentDesk$Rules" 85 mTM_isEquation 0 := ⟨Or.inl (sd_memT (sd_in3 (List.mem_of_getElem? (i := 21) rfl)) rfl), mTM_isEquation_c, (sd_memT (sd_in1 (List.mem_of_getElem? (i := 3) rfl)) rfl), by decide +kernel, by decide⟩
theorem kRU_88 : sd_ml "SequentDesk$Rules" 88 mTS_inHypotheses 2 := ⟨Or.inl (sd_memT (sd_in3 (List.mem_of_getElem? (i := 37) rfl)) rfl), mTS_inHypotheses_c, (sd_memT (sd_in1 (List.mem_of_getElem? (i := 2) rfl)) rfl), by decide +kernel, by decide⟩
theorem kRU_92 : sd_ml "SequentDesk$Rules" 92 mTM_isRedex 1 := ⟨Or.inl (sd_memT (sd_in3 (List.mem_of_getElem? (i := 46) rfl)) rfl), mTM_isRedex_c, (sd_memT (sd_in1 (List.mem_of_getElem? (i := 3) rfl)) rfl), by decide +kernel, by decide⟩
theorem kRU_95 : sd_ml "SequentDesk$Rules" 95 mRU_canPass 2 := ⟨Or.inl (sd_memT (sd_in3 (List.mem_of_getElem? (i := 50) rfl)) rfl), mRU_canPass_c, (sd_memT (sd_in1 (List.mem_of_getElem? (i := 6) rfl)) rfl), by decide +kernel, by decide⟩
theorem kRU_101 : sd_ml "SequentDesk$Rules" 101 mTM_right 0 := ⟨Or.inl (sd_memT (sd_in3 (List.mem_of_getElem? (i := 25) rfl)) rfl), mTM_right_c, (sd_memT (sd_in1 (List.mem_of_getElem? (i := 3) rfl)) rfl), by decide +kernel, by decide⟩
theorem kRU_105 : sd_ml "SequentDesk$Rules" 105 mTM_alike 4 := ⟨Or.inl (sd_memT (sd_in3 (List.mem_of_getElem? (i := 29) rfl)) rfl), mTM_alike_c, (sd_memT (sd_in1 (List.mem_of_getElem? (i := 3) rfl)) rfl), by decide +kernel, by decide⟩
theorem kRU_109 : sd_ml "SequentDesk$Rules" 109 mTY_isFunction 1 := ⟨Or.inl (sd_memT (sd_in3 (List.mem_of_getElem? (i := 33) rfl)) rfl), mTY_isFunction_c, (sd_memT (sd_in1 (List.mem_of_getElem? (i := 12) rfl)) rfl), by decide +kernel, by decide⟩
theorem kRU_114 : sd_ml "SequentDesk$Rules" 114 mTY_from 1 := ⟨Or.inl (sd_memT (sd_in3 (List.mem_of_getElem? (i := 36) rfl)) rfl), mTY_from_c, (sd_memT (sd_in1 (List.mem_of_getElem? (i := 12) rfl)) rfl), by decide +kernel, by decide⟩
theorem kRU_121 : sd_ml "SequentDesk$Rules" 121 mRU_begin 3 := ⟨Or.inl (sd_memT (sd_in3 (List.mem_of_getElem? (i := 59) rfl)) rfl), mRU_begin_c, (sd_memT (sd_in1 (List.mem_of_getElem? (i := 6) rfl)) rfl), by decide +kernel, by decide⟩
theorem kRU_125 : sd_ml "SequentDesk$Rules" 125 mRU_replaceHypotheses 4 := ⟨Or.inl (sd_memT (sd_in3 (List.mem_of_getElem? (i := 67) rfl)) rfl), mRU_replaceHypotheses_c, (sd_memT (sd_in1 (List.mem_of_getElem? (i := 6) rfl)) rfl), by decide +kernel, by decide⟩
theorem kRU_129 : sd_ml "SequentDesk$Rules" 129 mTS_fresh 0 := ⟨Or.inl (sd_memT (sd_in3 (List.mem_of_getElem? (i := 71) rfl)) rfl), mTS_fresh_c, (sd_memT (sd_in1 (List.mem_of_getElem? (i := 2) rfl)) rfl), by decide +kernel, by decide⟩
theorem kRU_133 : sd_ml "SequentDesk$Rules" 133 mRU_writeConclusion 5 := ⟨Or.inl (sd_memT (sd_in3 (List.mem_of_getElem? (i := 90) rfl)) rfl), mRU_writeConclusion_c, (sd_memT (sd_in1 (List.mem_of_getElem? (i := 6) rfl)) rfl), by decide +kernel, by decide⟩
theorem kRU_137 : sd_ml "SequentDesk$Rules" 137 mTS_keep 0 := ⟨Or.inl (sd_memT (sd_in3 (List.mem_of_getElem? (i := 81) rfl)) rfl), mTS_keep_c, (sd_memT (sd_in1 (List.mem_of_getElem? (i := 2) rfl)) rfl), by decide +kernel, by decide⟩
theorem kRU_140 : sd_ml "SequentDesk$Rules" 140 mST_conclude 1 := ⟨Or.inl (sd_memT (sd_in3 (List.mem_of_getElem? (i := 125) rfl)) rfl), mST_conclude_c, (sd_memT (sd_in1 (List.mem_of_getElem? (i := 8) rfl)) rfl), by decide +kernel, by decide⟩
theorem kRU_144 : sd_ml "SequentDesk$Rules" 144 mRU_gather 3 := ⟨Or.inl (sd_memT (sd_in3 (List.mem_of_getElem? (i := 129) rfl)) rfl), mRU_gather_c, (sd_memT (sd_in1 (List.mem_of_getElem? (i := 6) rfl)) rfl), by decide +kernel, by decide⟩
theorem kRU_147 : sd_ml "SequentDesk$Rules" 147 mST_begin 0 := ⟨Or.inl (sd_memT (sd_in3 (List.mem_of_getElem? (i := 63) rfl)) rfl), mST_begin_c, (sd_memT (sd_in1 (List.mem_of_getElem? (i := 8) rfl)) rfl), by decide +kernel, by decide⟩
theorem kRU_168 : sd_ml "SequentDesk$Rules" 168 mTM_addReplaced 3 := ⟨Or.inl (sd_memT (sd_in3 (List.mem_of_getElem? (i := 72) rfl)) rfl), mTM_addReplaced_c, (sd_memT (sd_in1 (List.mem_of_getElem? (i := 3) rfl)) rfl), by decide +kernel, by decide⟩
theorem kRU_172 : sd_ml "SequentDesk$Rules" 172 mST_assume 1 := ⟨Or.inl (sd_memT (sd_in3 (List.mem_of_getElem? (i := 82) rfl)) rfl), mST_assume_c, (sd_memT (sd_in1 (List.mem_of_getElem? (i := 8) rfl)) rfl), by decide +kernel, by decide⟩
theorem kRU_175 : sd_ml "SequentDesk$Rules" 175 mTM_addEquation 4 := ⟨Or.inl (sd_memT (sd_in3 (List.mem_of_getElem? (i := 94) rfl)) rfl), mTM_addEquation_c, (sd_memT (sd_in1 (List.mem_of_getElem? (i := 3) rfl)) rfl), by decide +kernel, by decide⟩
theorem kRU_179 : sd_ml "SequentDesk$Rules" 179 mTM_addPart 2 := ⟨Or.inl (sd_memT (sd_in3 (List.mem_of_getElem? (i := 98) rfl)) rfl), mTM_addPart_c, (sd_memT (sd_in1 (List.mem_of_getElem? (i := 3) rfl)) rfl), by decide +kernel, by decide⟩
theorem kRU_183 : sd_ml "SequentDesk$Rules" 183 mRU_writeCombined 3 := ⟨Or.inl (sd_memT (sd_in3 (List.mem_of_getElem? (i := 99) rfl)) rfl), mRU_writeCombined_c, (sd_memT (sd_in1 (List.mem_of_getElem? (i := 6) rfl)) rfl), by decide +kernel, by decide⟩
theorem kRU_187 : sd_ml "SequentDesk$Rules" 187 mRU_writeAbstracted 3 := ⟨Or.inl (sd_memT (sd_in3 (List.mem_of_getElem? (i := 108) rfl)) rfl), mRU_writeAbstracted_c, (sd_memT (sd_in1 (List.mem_of_getElem? (i := 6) rfl)) rfl), by decide +kernel, by decide⟩
theorem kRU_191 : sd_ml "SequentDesk$Rules" 191 mRU_writeReduced 2 := ⟨Or.inl (sd_memT (sd_in3 (List.mem_of_getElem? (i := 118) rfl)) rfl), mRU_writeReduced_c, (sd_memT (sd_in1 (List.mem_of_getElem? (i := 6) rfl)) rfl), by decide +kernel, by decide⟩
theorem kRU_195 : sd_ml "SequentDesk$Rules" 195 mTY_to 1 := ⟨Or.inl (sd_memT (sd_in3 (List.mem_of_getElem? (i := 102) rfl)) rfl), mTY_to_c, (sd_memT (sd_in1 (List.mem_of_getElem? (i := 12) rfl)) rfl), by decide +kernel, by decide⟩
theorem kRU_198 : sd_ml "SequentDesk$Rules" 198 mTM_add 2 := ⟨Or.inl (sd_memT (sd_in3 (List.mem_of_getElem? (i := 103) rfl)) rfl), mTM_add_c, (sd_memT (sd_in1 (List.mem_of_getElem? (i := 3) rfl)) rfl), by decide +kernel, by decide⟩
theorem kRU_202 : sd_ml "SequentDesk$Rules" 202 mTM_addUse 5 := ⟨Or.inl (sd_memT (sd_in3 (List.mem_of_getElem? (i := 104) rfl)) rfl), mTM_addUse_c, (sd_memT (sd_in1 (List.mem_of_getElem? (i := 3) rfl)) rfl), by decide +kernel, by decide⟩
theorem kRU_206 : sd_ml "SequentDesk$Rules" 206 mTY_join 2 := ⟨Or.inl (sd_memT (sd_in3 (List.mem_of_getElem? (i := 112) rfl)) rfl), mTY_join_c, (sd_memT (sd_in1 (List.mem_of_getElem? (i := 12) rfl)) rfl), by decide +kernel, by decide⟩
theorem kRU_210 : sd_ml "SequentDesk$Rules" 210 mTM_addLambda 4 := ⟨Or.inl (sd_memT (sd_in3 (List.mem_of_getElem? (i := 113) rfl)) rfl), mTM_addLambda_c, (sd_memT (sd_in1 (List.mem_of_getElem? (i := 3) rfl)) rfl), by decide +kernel, by decide⟩
theorem kRU_217 : sd_ml "SequentDesk$Rules" 217 mTM_addFilled 4 := ⟨Or.inl (sd_memT (sd_in3 (List.mem_of_getElem? (i := 121) rfl)) rfl), mTM_addFilled_c, (sd_memT (sd_in1 (List.mem_of_getElem? (i := 3) rfl)) rfl), by decide +kernel, by decide⟩
theorem kRU_220 : sd_ml "SequentDesk$Rules" 220 mST_assumeThoseBut 2 := ⟨Or.inl (sd_memT (sd_in3 (List.mem_of_getElem? (i := 133) rfl)) rfl), mST_assumeThoseBut_c, (sd_memT (sd_in1 (List.mem_of_getElem? (i := 8) rfl)) rfl), by decide +kernel, by decide⟩
theorem kRU_224 : sd_ml "SequentDesk$Rules" 224 mST_assumeThoseOf 1 := ⟨Or.inl (sd_memT (sd_in3 (List.mem_of_getElem? (i := 138) rfl)) rfl), mST_assumeThoseOf_c, (sd_memT (sd_in1 (List.mem_of_getElem? (i := 8) rfl)) rfl), by decide +kernel, by decide⟩
theorem kST_26 : sd_ml "SequentDesk$Statement" 26 mST_assumes 1 := ⟨Or.inl (sd_memT (sd_in3 (List.mem_of_getElem? (i := 86) rfl)) rfl), mST_assumes_c, (sd_memT (sd_in1 (List.mem_of_getElem? (i := 8) rfl)) rfl), by decide +kernel, by decide⟩
theorem kST_30 : sd_ml "SequentDesk$Statement" 30 mST_assume 1 := ⟨Or.inl (sd_memT (sd_in3 (List.mem_of_getElem? (i := 137) rfl)) rfl), mST_assume_c, (sd_memT (sd_in1 (List.mem_of_getElem? (i := 8) rfl)) rfl), by decide +kernel, by decide⟩
theorem kTM_29 : sd_ml "SequentDesk$Term" 29 mTM_add 2 := ⟨Or.inl (sd_memT (sd_in3 (List.mem_of_getElem? (i := 80) rfl)) rfl), mTM_add_c, (sd_memT (sd_in1 (List.mem_of_getElem? (i := 3) rfl)) rfl), by decide +kernel, by decide⟩
theorem kTM_33 : sd_ml "SequentDesk$Term" 33 mTM_addPart 2 := ⟨Or.inl (sd_memT (sd_in3 (List.mem_of_getElem? (i := 76) rfl)) rfl), mTM_addPart_c, (sd_memT (sd_in1 (List.mem_of_getElem? (i := 3) rfl)) rfl), by decide +kernel, by decide⟩
theorem kTM_37 : sd_ml "SequentDesk$Term" 37 mTM_lambdasAround 2 := ⟨Or.inl (sd_memT (sd_in3 (List.mem_of_getElem? (i := 117) rfl)) rfl), mTM_lambdasAround_c, (sd_memT (sd_in1 (List.mem_of_getElem? (i := 3) rfl)) rfl), by decide +kernel, by decide⟩
theorem kTM_41 : sd_ml "SequentDesk$Term" 41 mTM_partsOf 1 := ⟨Or.inl (sd_memT (sd_in2 (List.mem_of_getElem? (i := 128) rfl)) rfl), mTM_partsOf_c, (sd_memT (sd_in1 (List.mem_of_getElem? (i := 3) rfl)) rfl), by decide +kernel, by decide⟩
theorem kTM_45 : sd_ml "SequentDesk$Term" 45 mTM_names 0 := ⟨Or.inl (sd_memT (sd_in3 (List.mem_of_getElem? (i := 45) rfl)) rfl), mTM_names_c, (sd_memT (sd_in1 (List.mem_of_getElem? (i := 3) rfl)) rfl), by decide +kernel, by decide⟩
theorem kTM_49 : sd_ml "SequentDesk$Term" 49 mMA_max 2 := ⟨Or.inl (sd_memT (sd_in2 (List.mem_of_getElem? (i := 225) rfl)) rfl), mMA_max_c, (sd_memT (sd_in1 (List.mem_of_getElem? (i := 13) rfl)) rfl), by decide +kernel, by decide⟩
theorem kTS_21 : sd_ml "SequentDesk$Terms" 21 mTM_init 0 := ⟨Or.inr ⟨"SequentDesk", (sd_nT (sd_in1 (List.mem_of_getElem? (i := 32) rfl)) rfl)⟩, mTM_init_c, (sd_memT (sd_in1 (List.mem_of_getElem? (i := 3) rfl)) rfl), by decide +kernel, by decide⟩
theorem kTS_30 : sd_ml "SequentDesk$Terms" 30 mMA_min 2 := ⟨Or.inl (sd_memT (sd_in2 (List.mem_of_getElem? (i := 111) rfl)) rfl), mMA_min_c, (sd_memT (sd_in1 (List.mem_of_getElem? (i := 13) rfl)) rfl), by decide +kernel, by decide⟩
theorem kTS_36 : sd_ml "SequentDesk$Terms" 36 mTM_begin 0 := ⟨Or.inl (sd_memT (sd_in2 (List.mem_of_getElem? (i := 112) rfl)) rfl), mTM_begin_c, (sd_memT (sd_in1 (List.mem_of_getElem? (i := 3) rfl)) rfl), by decide +kernel, by decide⟩
theorem kTS_43 : sd_ml "SequentDesk$Terms" 43 mTM_settle 0 := ⟨Or.inl (sd_memT (sd_in2 (List.mem_of_getElem? (i := 201) rfl)) rfl), mTM_settle_c, (sd_memT (sd_in1 (List.mem_of_getElem? (i := 3) rfl)) rfl), by decide +kernel, by decide⟩
theorem kTS_46 : sd_ml "SequentDesk$Terms" 46 mTM_alike 4 := ⟨Or.inl (sd_memT (sd_in2 (List.mem_of_getElem? (i := 202) rfl)) rfl), mTM_alike_c, (sd_memT (sd_in1 (List.mem_of_getElem? (i := 3) rfl)) rfl), by decide +kernel, by decide⟩
theorem kTS_50 : sd_ml "SequentDesk$Terms" 50 mTS_fresh 0 := ⟨Or.inl (sd_memT (sd_in3 (List.mem_of_getElem? (i := 237) rfl)) rfl), mTS_fresh_c, (sd_memT (sd_in1 (List.mem_of_getElem? (i := 2) rfl)) rfl), by decide +kernel, by decide⟩
theorem kTS_54 : sd_ml "SequentDesk$Terms" 54 mTM_addPart 2 := ⟨Or.inl (sd_memT (sd_in4 (List.mem_of_getElem? (i := 15) rfl)) rfl), mTM_addPart_c, (sd_memT (sd_in1 (List.mem_of_getElem? (i := 3) rfl)) rfl), by decide +kernel, by decide⟩
theorem kTS_58 : sd_ml "SequentDesk$Terms" 58 mTS_keep 0 := ⟨Or.inl (sd_memT (sd_in3 (List.mem_of_getElem? (i := 239) rfl)) rfl), mTS_keep_c, (sd_memT (sd_in1 (List.mem_of_getElem? (i := 2) rfl)) rfl), by decide +kernel, by decide⟩
theorem kTS_62 : sd_ml "SequentDesk$Terms" 62 mTM_addEquation 4 := ⟨Or.inl (sd_memT (sd_in3 (List.mem_of_getElem? (i := 238) rfl)) rfl), mTM_addEquation_c, (sd_memT (sd_in1 (List.mem_of_getElem? (i := 3) rfl)) rfl), by decide +kernel, by decide⟩
theorem kTS_66 : sd_ml "SequentDesk$Terms" 66 mTM_add 2 := ⟨Or.inl (sd_memT (sd_in4 (List.mem_of_getElem? (i := 4) rfl)) rfl), mTM_add_c, (sd_memT (sd_in1 (List.mem_of_getElem? (i := 3) rfl)) rfl), by decide +kernel, by decide⟩
theorem kTS_78 : sd_ml "SequentDesk$Terms" 78 mTM_hasName 1 := ⟨Or.inl (sd_memT (sd_in3 (List.mem_of_getElem? (i := 41) rfl)) rfl), mTM_hasName_c, (sd_memT (sd_in1 (List.mem_of_getElem? (i := 3) rfl)) rfl), by decide +kernel, by decide⟩
theorem kTH_9 : sd_ml "SequentDesk$Theorem" 9 mST_init 0 := ⟨Or.inr ⟨"SequentDesk", (sd_nT (sd_in1 (List.mem_of_getElem? (i := 159) rfl)) rfl)⟩, mST_init_c, (sd_memT (sd_in1 (List.mem_of_getElem? (i := 8) rfl)) rfl), by decide +kernel, by decide⟩
theorem kTY_9 : sd_ml "SequentDesk$Types" 9 mTY_digits 1 := ⟨Or.inl (sd_memT (sd_in2 (List.mem_of_getElem? (i := 66) rfl)) rfl), mTY_digits_c, (sd_memT (sd_in1 (List.mem_of_getElem? (i := 12) rfl)) rfl), by decide +kernel, by decide⟩
theorem kTY_15 : sd_ml "SequentDesk$Types" 15 mTY_taken 2 := ⟨Or.inl (sd_memT (sd_in2 (List.mem_of_getElem? (i := 69) rfl)) rfl), mTY_taken_c, (sd_memT (sd_in1 (List.mem_of_getElem? (i := 12) rfl)) rfl), by decide +kernel, by decide⟩
theorem kTY_19 : sd_ml "SequentDesk$Types" 19 mTY_lastDigits 2 := ⟨Or.inl (sd_memT (sd_in2 (List.mem_of_getElem? (i := 170) rfl)) rfl), mTY_lastDigits_c, (sd_memT (sd_in1 (List.mem_of_getElem? (i := 12) rfl)) rfl), by decide +kernel, by decide⟩
theorem kLA_9 : sd_ml "SequentDeskLaw" 9 mDK_init 0 := ⟨Or.inl (sd_memT (sd_in1 (List.mem_of_getElem? (i := 17) rfl)) rfl), mDK_init_c, (sd_memT (sd_in1 (List.mem_of_getElem? (i := 1) rfl)) rfl), by decide +kernel, by decide⟩
theorem kLA_12 : sd_ml "SequentDeskLaw" 12 mMO_init 0 := ⟨Or.inl (sd_memT (sd_in4 (List.mem_of_getElem? (i := 75) rfl)) rfl), mMO_init_c, (sd_memT (sd_in1 (List.mem_of_getElem? (i := 11) rfl)) rfl), by decide +kernel, by decide⟩
theorem kLA_13 : sd_ml "SequentDeskLaw" 13 mDK_function 2 := ⟨Or.inl (sd_memT (sd_in2 (List.mem_of_getElem? (i := 59) rfl)) rfl), mDK_function_c, (sd_memT (sd_in1 (List.mem_of_getElem? (i := 1) rfl)) rfl), by decide +kernel, by decide⟩
theorem kLA_17 : sd_ml "SequentDeskLaw" 17 mMO_function 2 := ⟨Or.inl (sd_memT (sd_in4 (List.mem_of_getElem? (i := 194) rfl)) rfl), mMO_function_c, (sd_memT (sd_in1 (List.mem_of_getElem? (i := 11) rfl)) rfl), by decide +kernel, by decide⟩
theorem kLA_18 : sd_ml "SequentDeskLaw" 18 mDK_declare 2 := ⟨Or.inl (sd_memT (sd_in2 (List.mem_of_getElem? (i := 75) rfl)) rfl), mDK_declare_c, (sd_memT (sd_in1 (List.mem_of_getElem? (i := 1) rfl)) rfl), by decide +kernel, by decide⟩
theorem kLA_21 : sd_ml "SequentDeskLaw" 21 mMO_declare 2 := ⟨Or.inl (sd_memT (sd_in4 (List.mem_of_getElem? (i := 214) rfl)) rfl), mMO_declare_c, (sd_memT (sd_in1 (List.mem_of_getElem? (i := 11) rfl)) rfl), by decide +kernel, by decide⟩
theorem kLA_22 : sd_ml "SequentDeskLaw" 22 mDK_token 1 := ⟨Or.inl (sd_memT (sd_in2 (List.mem_of_getElem? (i := 82) rfl)) rfl), mDK_token_c, (sd_memT (sd_in1 (List.mem_of_getElem? (i := 1) rfl)) rfl), by decide +kernel, by decide⟩
theorem kLA_26 : sd_ml "SequentDeskLaw" 26 mMO_token 1 := ⟨Or.inl (sd_memT (sd_in4 (List.mem_of_getElem? (i := 218) rfl)) rfl), mMO_token_c, (sd_memT (sd_in1 (List.mem_of_getElem? (i := 11) rfl)) rfl), by decide +kernel, by decide⟩
theorem kLA_27 : sd_ml "SequentDeskLaw" 27 mDK_clear 0 := ⟨Or.inl (sd_memT (sd_in2 (List.mem_of_getElem? (i := 86) rfl)) rfl), mDK_clear_c, (sd_memT (sd_in1 (List.mem_of_getElem? (i := 1) rfl)) rfl), by decide +kernel, by decide⟩
theorem kLA_31 : sd_ml "SequentDeskLaw" 31 mMO_clear 0 := ⟨Or.inl (sd_memT (sd_in4 (List.mem_of_getElem? (i := 222) rfl)) rfl), mMO_clear_c, (sd_memT (sd_in1 (List.mem_of_getElem? (i := 11) rfl)) rfl), by decide +kernel, by decide⟩
theorem kLA_32 : sd_ml "SequentDeskLaw" 32 mDK_read 0 := ⟨Or.inl (sd_memT (sd_in2 (List.mem_of_getElem? (i := 90) rfl)) rfl), mDK_read_c, (sd_memT (sd_in1 (List.mem_of_getElem? (i := 1) rfl)) rfl), by decide +kernel, by decide⟩
theorem kLA_35 : sd_ml "SequentDeskLaw" 35 mMO_read 0 := ⟨Or.inl (sd_memT (sd_in4 (List.mem_of_getElem? (i := 226) rfl)) rfl), mMO_read_c, (sd_memT (sd_in1 (List.mem_of_getElem? (i := 11) rfl)) rfl), by decide +kernel, by decide⟩
theorem kLA_36 : sd_ml "SequentDeskLaw" 36 mDK_term 2 := ⟨Or.inl (sd_memT (sd_in2 (List.mem_of_getElem? (i := 209) rfl)) rfl), mDK_term_c, (sd_memT (sd_in1 (List.mem_of_getElem? (i := 1) rfl)) rfl), by decide +kernel, by decide⟩
theorem kLA_39 : sd_ml "SequentDeskLaw" 39 mMO_term 2 := ⟨Or.inl (sd_memT (sd_in5 (List.mem_of_getElem? (i := 65) rfl)) rfl), mMO_term_c, (sd_memT (sd_in1 (List.mem_of_getElem? (i := 11) rfl)) rfl), by decide +kernel, by decide⟩
theorem kLA_40 : sd_ml "SequentDeskLaw" 40 mDK_symbol 3 := ⟨Or.inl (sd_memT (sd_in2 (List.mem_of_getElem? (i := 228) rfl)) rfl), mDK_symbol_c, (sd_memT (sd_in1 (List.mem_of_getElem? (i := 1) rfl)) rfl), by decide +kernel, by decide⟩
theorem kLA_44 : sd_ml "SequentDeskLaw" 44 mMO_symbol 3 := ⟨Or.inl (sd_memT (sd_in5 (List.mem_of_getElem? (i := 77) rfl)) rfl), mMO_symbol_c, (sd_memT (sd_in1 (List.mem_of_getElem? (i := 11) rfl)) rfl), by decide +kernel, by decide⟩
theorem kLA_45 : sd_ml "SequentDeskLaw" 45 mDK_rule 4 := ⟨Or.inl (sd_memT (sd_in2 (List.mem_of_getElem? (i := 232) rfl)) rfl), mDK_rule_c, (sd_memT (sd_in1 (List.mem_of_getElem? (i := 1) rfl)) rfl), by decide +kernel, by decide⟩
theorem kLA_49 : sd_ml "SequentDeskLaw" 49 mMO_rule 4 := ⟨Or.inl (sd_memT (sd_in5 (List.mem_of_getElem? (i := 81) rfl)) rfl), mMO_rule_c, (sd_memT (sd_in1 (List.mem_of_getElem? (i := 11) rfl)) rfl), by decide +kernel, by decide⟩
theorem kLA_50 : sd_ml "SequentDeskLaw" 50 mDK_theorem 2 := ⟨Or.inl (sd_memT (sd_in3 (List.mem_of_getElem? (i := 143) rfl)) rfl), mDK_theorem_c, (sd_memT (sd_in1 (List.mem_of_getElem? (i := 1) rfl)) rfl), by decide +kernel, by decide⟩
theorem kLA_53 : sd_ml "SequentDeskLaw" 53 mMO_theorem 2 := ⟨Or.inl (sd_memT (sd_in5 (List.mem_of_getElem? (i := 158) rfl)) rfl), mMO_theorem_c, (sd_memT (sd_in1 (List.mem_of_getElem? (i := 11) rfl)) rfl), by decide +kernel, by decide⟩
theorem kLA_54 : sd_ml "SequentDeskLaw" 54 mDK_hypothesis 2 := ⟨Or.inl (sd_memT (sd_in3 (List.mem_of_getElem? (i := 154) rfl)) rfl), mDK_hypothesis_c, (sd_memT (sd_in1 (List.mem_of_getElem? (i := 1) rfl)) rfl), by decide +kernel, by decide⟩
theorem kLA_57 : sd_ml "SequentDeskLaw" 57 mMO_hypothesis 2 := ⟨Or.inl (sd_memT (sd_in5 (List.mem_of_getElem? (i := 166) rfl)) rfl), mMO_hypothesis_c, (sd_memT (sd_in1 (List.mem_of_getElem? (i := 11) rfl)) rfl), by decide +kernel, by decide⟩
theorem kLA_58 : sd_ml "SequentDeskLaw" 58 mDK_goal 1 := ⟨Or.inl (sd_memT (sd_in3 (List.mem_of_getElem? (i := 158) rfl)) rfl), mDK_goal_c, (sd_memT (sd_in1 (List.mem_of_getElem? (i := 1) rfl)) rfl), by decide +kernel, by decide⟩
theorem kLA_61 : sd_ml "SequentDeskLaw" 61 mMO_goal 1 := ⟨Or.inl (sd_memT (sd_in5 (List.mem_of_getElem? (i := 170) rfl)) rfl), mMO_goal_c, (sd_memT (sd_in1 (List.mem_of_getElem? (i := 11) rfl)) rfl), by decide +kernel, by decide⟩
theorem kLA_62 : sd_ml "SequentDeskLaw" 62 mDK_tactic 2 := ⟨Or.inl (sd_memT (sd_in3 (List.mem_of_getElem? (i := 172) rfl)) rfl), mDK_tactic_c, (sd_memT (sd_in1 (List.mem_of_getElem? (i := 1) rfl)) rfl), by decide +kernel, by decide⟩
theorem kLA_65 : sd_ml "SequentDeskLaw" 65 mMO_tactic 2 := ⟨Or.inl (sd_memT (sd_in5 (List.mem_of_getElem? (i := 174) rfl)) rfl), mMO_tactic_c, (sd_memT (sd_in1 (List.mem_of_getElem? (i := 11) rfl)) rfl), by decide +kernel, by decide⟩
theorem kLA_66 : sd_ml "SequentDeskLaw" 66 mDK_undo 0 := ⟨Or.inl (sd_memT (sd_in4 (List.mem_of_getElem? (i := 28) rfl)) rfl), mDK_undo_c, (sd_memT (sd_in1 (List.mem_of_getElem? (i := 1) rfl)) rfl), by decide +kernel, by decide⟩
theorem kLA_69 : sd_ml "SequentDeskLaw" 69 mMO_undo 0 := ⟨Or.inl (sd_memT (sd_in5 (List.mem_of_getElem? (i := 198) rfl)) rfl), mMO_undo_c, (sd_memT (sd_in1 (List.mem_of_getElem? (i := 11) rfl)) rfl), by decide +kernel, by decide⟩
theorem kLA_70 : sd_ml "SequentDeskLaw" 70 mDK_repeat 1 := ⟨Or.inl (sd_memT (sd_in4 (List.mem_of_getElem? (i := 36) rfl)) rfl), mDK_repeat_c, (sd_memT (sd_in1 (List.mem_of_getElem? (i := 1) rfl)) rfl), by decide +kernel, by decide⟩
theorem kLA_73 : sd_ml "SequentDeskLaw" 73 mMO_repeat 1 := ⟨Or.inl (sd_memT (sd_in5 (List.mem_of_getElem? (i := 202) rfl)) rfl), mMO_repeat_c, (sd_memT (sd_in1 (List.mem_of_getElem? (i := 11) rfl)) rfl), by decide +kernel, by decide⟩
theorem kLA_74 : sd_ml "SequentDeskLaw" 74 mDK_open 2 := ⟨Or.inl (sd_memT (sd_in4 (List.mem_of_getElem? (i := 48) rfl)) rfl), mDK_open_c, (sd_memT (sd_in1 (List.mem_of_getElem? (i := 1) rfl)) rfl), by decide +kernel, by decide⟩
theorem kLA_77 : sd_ml "SequentDeskLaw" 77 mMO_open2 2 := ⟨Or.inl (sd_memT (sd_in5 (List.mem_of_getElem? (i := 207) rfl)) rfl), mMO_open2_c, (sd_memT (sd_in1 (List.mem_of_getElem? (i := 11) rfl)) rfl), by decide +kernel, by decide⟩
theorem kLA_78 : sd_ml "SequentDeskLaw" 78 mDK_close 0 := ⟨Or.inl (sd_memT (sd_in4 (List.mem_of_getElem? (i := 53) rfl)) rfl), mDK_close_c, (sd_memT (sd_in1 (List.mem_of_getElem? (i := 1) rfl)) rfl), by decide +kernel, by decide⟩
theorem kLA_81 : sd_ml "SequentDeskLaw" 81 mMO_close 0 := ⟨Or.inl (sd_memT (sd_in5 (List.mem_of_getElem? (i := 211) rfl)) rfl), mMO_close_c, (sd_memT (sd_in1 (List.mem_of_getElem? (i := 11) rfl)) rfl), by decide +kernel, by decide⟩
theorem kLA_82 : sd_ml "SequentDeskLaw" 82 mDK_count 1 := ⟨Or.inl (sd_memT (sd_in4 (List.mem_of_getElem? (i := 69) rfl)) rfl), mDK_count_c, (sd_memT (sd_in1 (List.mem_of_getElem? (i := 1) rfl)) rfl), by decide +kernel, by decide⟩
theorem kLA_85 : sd_ml "SequentDeskLaw" 85 mMO_count 1 := ⟨Or.inl (sd_memT (sd_in5 (List.mem_of_getElem? (i := 219) rfl)) rfl), mMO_count_c, (sd_memT (sd_in1 (List.mem_of_getElem? (i := 11) rfl)) rfl), by decide +kernel, by decide⟩
theorem kMO_97 : sd_ml "SequentDeskModel" 97 mMO_size 1 := ⟨Or.inl (sd_memT (sd_in4 (List.mem_of_getElem? (i := 205) rfl)) rfl), mMO_size_c, (sd_memT (sd_in1 (List.mem_of_getElem? (i := 11) rfl)) rfl), by decide +kernel, by decide⟩
theorem kMO_102 : sd_ml "SequentDeskModel" 102 mMO_in 3 := ⟨Or.inl (sd_memT (sd_in4 (List.mem_of_getElem? (i := 202) rfl)) rfl), mMO_in_c, (sd_memT (sd_in1 (List.mem_of_getElem? (i := 11) rfl)) rfl), by decide +kernel, by decide⟩
theorem kMO_106 : sd_ml "SequentDeskModel" 106 mMO_extent 2 := ⟨Or.inl (sd_memT (sd_in4 (List.mem_of_getElem? (i := 208) rfl)) rfl), mMO_extent_c, (sd_memT (sd_in1 (List.mem_of_getElem? (i := 11) rfl)) rfl), by decide +kernel, by decide⟩
theorem kMO_110 : sd_ml "SequentDeskModel" 110 mMO_isType 1 := ⟨Or.inl (sd_memT (sd_in4 (List.mem_of_getElem? (i := 198) rfl)) rfl), mMO_isType_c, (sd_memT (sd_in1 (List.mem_of_getElem? (i := 11) rfl)) rfl), by decide +kernel, by decide⟩
theorem kMO_114 : sd_ml "SequentDeskModel" 114 mMO_join 2 := ⟨Or.inl (sd_memT (sd_in4 (List.mem_of_getElem? (i := 211) rfl)) rfl), mMO_join_c, (sd_memT (sd_in1 (List.mem_of_getElem? (i := 11) rfl)) rfl), by decide +kernel, by decide⟩
theorem kMO_121 : sd_ml "SequentDeskModel" 121 mMO_arity 1 := ⟨Or.inl (sd_memT (sd_in5 (List.mem_of_getElem? (i := 10) rfl)) rfl), mMO_arity_c, (sd_memT (sd_in1 (List.mem_of_getElem? (i := 11) rfl)) rfl), by decide +kernel, by decide⟩
theorem kMO_128 : sd_ml "SequentDeskModel" 128 mMO_end 2 := ⟨Or.inl (sd_memT (sd_in5 (List.mem_of_getElem? (i := 6) rfl)) rfl), mMO_end_c, (sd_memT (sd_in1 (List.mem_of_getElem? (i := 11) rfl)) rfl), by decide +kernel, by decide⟩
theorem kMO_131 : sd_ml "SequentDeskModel" 131 mMO_symbolAt 2 := ⟨Or.inl (sd_memT (sd_in5 (List.mem_of_getElem? (i := 21) rfl)) rfl), mMO_symbolAt_c, (sd_memT (sd_in1 (List.mem_of_getElem? (i := 11) rfl)) rfl), by decide +kernel, by decide⟩
theorem kMO_134 : sd_ml "SequentDeskModel" 134 mMO_typeAt 2 := ⟨Or.inl (sd_memT (sd_in5 (List.mem_of_getElem? (i := 61) rfl)) rfl), mMO_typeAt_c, (sd_memT (sd_in1 (List.mem_of_getElem? (i := 11) rfl)) rfl), by decide +kernel, by decide⟩
theorem kMO_137 : sd_ml "SequentDeskModel" 137 mMO_add 3 := ⟨Or.inl (sd_memT (sd_in5 (List.mem_of_getElem? (i := 2) rfl)) rfl), mMO_add_c, (sd_memT (sd_in1 (List.mem_of_getElem? (i := 11) rfl)) rfl), by decide +kernel, by decide⟩
theorem kMO_141 : sd_ml "SequentDeskModel" 141 mMO_same 4 := ⟨Or.inl (sd_memT (sd_in5 (List.mem_of_getElem? (i := 57) rfl)) rfl), mMO_same_c, (sd_memT (sd_in1 (List.mem_of_getElem? (i := 11) rfl)) rfl), by decide +kernel, by decide⟩
theorem kMO_145 : sd_ml "SequentDeskModel" 145 mMO_find 2 := ⟨Or.inl (sd_memT (sd_in5 (List.mem_of_getElem? (i := 53) rfl)) rfl), mMO_find_c, (sd_memT (sd_in1 (List.mem_of_getElem? (i := 11) rfl)) rfl), by decide +kernel, by decide⟩
theorem kMO_151 : sd_ml "SequentDeskModel" 151 mMO_begin 1 := ⟨Or.inl (sd_memT (sd_in4 (List.mem_of_getElem? (i := 238) rfl)) rfl), mMO_begin_c, (sd_memT (sd_in1 (List.mem_of_getElem? (i := 11) rfl)) rfl), by decide +kernel, by decide⟩
theorem kMO_155 : sd_ml "SequentDeskModel" 155 mMO_copy 3 := ⟨Or.inl (sd_memT (sd_in5 (List.mem_of_getElem? (i := 123) rfl)) rfl), mMO_copy_c, (sd_memT (sd_in1 (List.mem_of_getElem? (i := 11) rfl)) rfl), by decide +kernel, by decide⟩
theorem kMO_164 : sd_ml "SequentDeskModel" 164 mMO_fresh 3 := ⟨Or.inl (sd_memT (sd_in5 (List.mem_of_getElem? (i := 17) rfl)) rfl), mMO_fresh_c, (sd_memT (sd_in1 (List.mem_of_getElem? (i := 11) rfl)) rfl), by decide +kernel, by decide⟩
theorem kMO_168 : sd_ml "SequentDeskModel" 168 mMO_root 1 := ⟨Or.inl (sd_memT (sd_in5 (List.mem_of_getElem? (i := 37) rfl)) rfl), mMO_root_c, (sd_memT (sd_in1 (List.mem_of_getElem? (i := 11) rfl)) rfl), by decide +kernel, by decide⟩
theorem kMO_171 : sd_ml "SequentDeskModel" 171 mMO_nameNode 2 := ⟨Or.inl (sd_memT (sd_in5 (List.mem_of_getElem? (i := 25) rfl)) rfl), mMO_nameNode_c, (sd_memT (sd_in1 (List.mem_of_getElem? (i := 11) rfl)) rfl), by decide +kernel, by decide⟩
theorem kMO_174 : sd_ml "SequentDeskModel" 174 mMO_unify 2 := ⟨Or.inl (sd_memT (sd_in5 (List.mem_of_getElem? (i := 33) rfl)) rfl), mMO_unify_c, (sd_memT (sd_in1 (List.mem_of_getElem? (i := 11) rfl)) rfl), by decide +kernel, by decide⟩
theorem kMO_178 : sd_ml "SequentDeskModel" 178 mMO_binder 1 := ⟨Or.inl (sd_memT (sd_in5 (List.mem_of_getElem? (i := 41) rfl)) rfl), mMO_binder_c, (sd_memT (sd_in1 (List.mem_of_getElem? (i := 11) rfl)) rfl), by decide +kernel, by decide⟩
theorem kMO_181 : sd_ml "SequentDeskModel" 181 mMO_nodeOf 1 := ⟨Or.inl (sd_memT (sd_in5 (List.mem_of_getElem? (i := 29) rfl)) rfl), mMO_nodeOf_c, (sd_memT (sd_in1 (List.mem_of_getElem? (i := 11) rfl)) rfl), by decide +kernel, by decide⟩
theorem kMO_184 : sd_ml "SequentDeskModel" 184 mMO_isShape 0 := ⟨Or.inl (sd_memT (sd_in4 (List.mem_of_getElem? (i := 230) rfl)) rfl), mMO_isShape_c, (sd_memT (sd_in1 (List.mem_of_getElem? (i := 11) rfl)) rfl), by decide +kernel, by decide⟩
theorem kMO_188 : sd_ml "SequentDeskModel" 188 mMO_spell 0 := ⟨Or.inl (sd_memT (sd_in4 (List.mem_of_getElem? (i := 234) rfl)) rfl), mMO_spell_c, (sd_memT (sd_in1 (List.mem_of_getElem? (i := 11) rfl)) rfl), by decide +kernel, by decide⟩
theorem kMO_191 : sd_ml "SequentDeskModel" 191 mMO_isTyped 0 := ⟨Or.inl (sd_memT (sd_in5 (List.mem_of_getElem? (i := 13) rfl)) rfl), mMO_isTyped_c, (sd_memT (sd_in1 (List.mem_of_getElem? (i := 11) rfl)) rfl), by decide +kernel, by decide⟩
theorem kMO_194 : sd_ml "SequentDeskModel" 194 mMO_measure 0 := ⟨Or.inl (sd_memT (sd_in5 (List.mem_of_getElem? (i := 45) rfl)) rfl), mMO_measure_c, (sd_memT (sd_in1 (List.mem_of_getElem? (i := 11) rfl)) rfl), by decide +kernel, by decide⟩
theorem kMO_197 : sd_ml "SequentDeskModel" 197 mMO_keep 1 := ⟨Or.inl (sd_memT (sd_in5 (List.mem_of_getElem? (i := 49) rfl)) rfl), mMO_keep_c, (sd_memT (sd_in1 (List.mem_of_getElem? (i := 11) rfl)) rfl), by decide +kernel, by decide⟩
theorem kMO_200 : sd_ml "SequentDeskModel" 200 mMO_isTerm 1 := ⟨Or.inl (sd_memT (sd_in5 (List.mem_of_getElem? (i := 69) rfl)) rfl), mMO_isTerm_c, (sd_memT (sd_in1 (List.mem_of_getElem? (i := 11) rfl)) rfl), by decide +kernel, by decide⟩
theorem kMO_203 : sd_ml "SequentDeskModel" 203 mMO_typeOf 1 := ⟨Or.inl (sd_memT (sd_in5 (List.mem_of_getElem? (i := 73) rfl)) rfl), mMO_typeOf_c, (sd_memT (sd_in1 (List.mem_of_getElem? (i := 11) rfl)) rfl), by decide +kernel, by decide⟩
theorem kMO_206 : sd_ml "SequentDeskModel" 206 mMO_around 3 := ⟨Or.inl (sd_memT (sd_in5 (List.mem_of_getElem? (i := 138) rfl)) rfl), mMO_around_c, (sd_memT (sd_in1 (List.mem_of_getElem? (i := 11) rfl)) rfl), by decide +kernel, by decide⟩
theorem kMO_209 : sd_ml "SequentDeskModel" 209 mMO_open5 5 := ⟨Or.inl (sd_memT (sd_in5 (List.mem_of_getElem? (i := 146) rfl)) rfl), mMO_open5_c, (sd_memT (sd_in1 (List.mem_of_getElem? (i := 11) rfl)) rfl), by decide +kernel, by decide⟩
theorem kMO_216 : sd_ml "SequentDeskModel" 216 mMO_hold 1 := ⟨Or.inl (sd_memT (sd_in5 (List.mem_of_getElem? (i := 127) rfl)) rfl), mMO_hold_c, (sd_memT (sd_in1 (List.mem_of_getElem? (i := 11) rfl)) rfl), by decide +kernel, by decide⟩
theorem kMO_219 : sd_ml "SequentDeskModel" 219 mMO_isTheorem 1 := ⟨Or.inl (sd_memT (sd_in5 (List.mem_of_getElem? (i := 89) rfl)) rfl), mMO_isTheorem_c, (sd_memT (sd_in1 (List.mem_of_getElem? (i := 11) rfl)) rfl), by decide +kernel, by decide⟩
theorem kMO_222 : sd_ml "SequentDeskModel" 222 mMO_isEqual 1 := ⟨Or.inl (sd_memT (sd_in5 (List.mem_of_getElem? (i := 97) rfl)) rfl), mMO_isEqual_c, (sd_memT (sd_in1 (List.mem_of_getElem? (i := 11) rfl)) rfl), by decide +kernel, by decide⟩
theorem kMO_225 : sd_ml "SequentDeskModel" 225 mMO_isFunction 1 := ⟨Or.inl (sd_memT (sd_in5 (List.mem_of_getElem? (i := 101) rfl)) rfl), mMO_isFunction_c, (sd_memT (sd_in1 (List.mem_of_getElem? (i := 11) rfl)) rfl), by decide +kernel, by decide⟩
theorem kMO_228 : sd_ml "SequentDeskModel" 228 mMO_from 1 := ⟨Or.inl (sd_memT (sd_in5 (List.mem_of_getElem? (i := 104) rfl)) rfl), mMO_from_c, (sd_memT (sd_in1 (List.mem_of_getElem? (i := 11) rfl)) rfl), by decide +kernel, by decide⟩
theorem kMO_231 : sd_ml "SequentDeskModel" 231 mMO_names 2 := ⟨Or.inl (sd_memT (sd_in5 (List.mem_of_getElem? (i := 107) rfl)) rfl), mMO_names_c, (sd_memT (sd_in1 (List.mem_of_getElem? (i := 11) rfl)) rfl), by decide +kernel, by decide⟩
theorem kMO_234 : sd_ml "SequentDeskModel" 234 mMO_isBeta 2 := ⟨Or.inl (sd_memT (sd_in5 (List.mem_of_getElem? (i := 111) rfl)) rfl), mMO_isBeta_c, (sd_memT (sd_in1 (List.mem_of_getElem? (i := 11) rfl)) rfl), by decide +kernel, by decide⟩
theorem kMO_237 : sd_ml "SequentDeskModel" 237 mMO_equal 5 := ⟨Or.inl (sd_memT (sd_in5 (List.mem_of_getElem? (i := 119) rfl)) rfl), mMO_equal_c, (sd_memT (sd_in1 (List.mem_of_getElem? (i := 11) rfl)) rfl), by decide +kernel, by decide⟩
theorem kMO_240 : sd_ml "SequentDeskModel" 240 mMO_to 1 := ⟨Or.inl (sd_memT (sd_in5 (List.mem_of_getElem? (i := 131) rfl)) rfl), mMO_to_c, (sd_memT (sd_in1 (List.mem_of_getElem? (i := 11) rfl)) rfl), by decide +kernel, by decide⟩
theorem kMO_243 : sd_ml "SequentDeskModel" 243 mMO_put 5 := ⟨Or.inl (sd_memT (sd_in5 (List.mem_of_getElem? (i := 134) rfl)) rfl), mMO_put_c, (sd_memT (sd_in1 (List.mem_of_getElem? (i := 11) rfl)) rfl), by decide +kernel, by decide⟩
theorem kMO_246 : sd_ml "SequentDeskModel" 246 mMO_beta 3 := ⟨Or.inl (sd_memT (sd_in5 (List.mem_of_getElem? (i := 142) rfl)) rfl), mMO_beta_c, (sd_memT (sd_in1 (List.mem_of_getElem? (i := 11) rfl)) rfl), by decide +kernel, by decide⟩
theorem kMO_249 : sd_ml "SequentDeskModel" 249 mMO_gather 2 := ⟨Or.inl (sd_memT (sd_in5 (List.mem_of_getElem? (i := 150) rfl)) rfl), mMO_gather_c, (sd_memT (sd_in1 (List.mem_of_getElem? (i := 11) rfl)) rfl), by decide +kernel, by decide⟩
theorem kMO_253 : sd_ml "SequentDeskModel" 253 mMO_isThere 4 := ⟨Or.inl (sd_memT (sd_in5 (List.mem_of_getElem? (i := 85) rfl)) rfl), mMO_isThere_c, (sd_memT (sd_in1 (List.mem_of_getElem? (i := 11) rfl)) rfl), by decide +kernel, by decide⟩
theorem kMO_256 : sd_ml "SequentDeskModel" 256 mMO_fits 4 := ⟨Or.inl (sd_memT (sd_in5 (List.mem_of_getElem? (i := 93) rfl)) rfl), mMO_fits_c, (sd_memT (sd_in1 (List.mem_of_getElem? (i := 11) rfl)) rfl), by decide +kernel, by decide⟩
theorem kMO_259 : sd_ml "SequentDeskModel" 259 mMO_build 4 := ⟨Or.inl (sd_memT (sd_in5 (List.mem_of_getElem? (i := 115) rfl)) rfl), mMO_build_c, (sd_memT (sd_in1 (List.mem_of_getElem? (i := 11) rfl)) rfl), by decide +kernel, by decide⟩
theorem kMO_263 : sd_ml "SequentDeskModel" 263 mMO_note 4 := ⟨Or.inl (sd_memT (sd_in5 (List.mem_of_getElem? (i := 154) rfl)) rfl), mMO_note_c, (sd_memT (sd_in1 (List.mem_of_getElem? (i := 11) rfl)) rfl), by decide +kernel, by decide⟩
theorem kMO_267 : sd_ml "SequentDeskModel" 267 mMO_rests 1 := ⟨Or.inl (sd_memT (sd_in5 (List.mem_of_getElem? (i := 162) rfl)) rfl), mMO_rests_c, (sd_memT (sd_in1 (List.mem_of_getElem? (i := 11) rfl)) rfl), by decide +kernel, by decide⟩
theorem kMO_278 : sd_ml "SequentDeskModel" 278 mMO_assumes 2 := ⟨Or.inl (sd_memT (sd_in5 (List.mem_of_getElem? (i := 182) rfl)) rfl), mMO_assumes_c, (sd_memT (sd_in1 (List.mem_of_getElem? (i := 11) rfl)) rfl), by decide +kernel, by decide⟩
theorem kMO_281 : sd_ml "SequentDeskModel" 281 mMO_givesBeta 2 := ⟨Or.inl (sd_memT (sd_in5 (List.mem_of_getElem? (i := 186) rfl)) rfl), mMO_givesBeta_c, (sd_memT (sd_in1 (List.mem_of_getElem? (i := 11) rfl)) rfl), by decide +kernel, by decide⟩
theorem kMO_284 : sd_ml "SequentDeskModel" 284 mMO_suits 3 := ⟨Or.inl (sd_memT (sd_in5 (List.mem_of_getElem? (i := 178) rfl)) rfl), mMO_suits_c, (sd_memT (sd_in1 (List.mem_of_getElem? (i := 11) rfl)) rfl), by decide +kernel, by decide⟩
theorem kMO_287 : sd_ml "SequentDeskModel" 287 mMO_leave 3 := ⟨Or.inl (sd_memT (sd_in5 (List.mem_of_getElem? (i := 190) rfl)) rfl), mMO_leave_c, (sd_memT (sd_in1 (List.mem_of_getElem? (i := 11) rfl)) rfl), by decide +kernel, by decide⟩
theorem kMO_290 : sd_ml "SequentDeskModel" 290 mMO_child 4 := ⟨Or.inl (sd_memT (sd_in5 (List.mem_of_getElem? (i := 194) rfl)) rfl), mMO_child_c, (sd_memT (sd_in1 (List.mem_of_getElem? (i := 11) rfl)) rfl), by decide +kernel, by decide⟩
theorem kMO_293 : sd_ml "SequentDeskModel" 293 mMO_tactic 2 := ⟨Or.inl (sd_memT (sd_in5 (List.mem_of_getElem? (i := 206) rfl)) rfl), mMO_tactic_c, (sd_memT (sd_in1 (List.mem_of_getElem? (i := 11) rfl)) rfl), by decide +kernel, by decide⟩
theorem kMO_296 : sd_ml "SequentDeskModel" 296 mMO_derive 1 := ⟨Or.inl (sd_memT (sd_in5 (List.mem_of_getElem? (i := 215) rfl)) rfl), mMO_derive_c, (sd_memT (sd_in1 (List.mem_of_getElem? (i := 11) rfl)) rfl), by decide +kernel, by decide⟩
theorem mDK_init_i : Cond.instanceMethod mDK_init.1 ∈ sd_tbl := (sd_memT (sd_in1 (List.mem_of_getElem? (i := 18) rfl)) rfl)
theorem mDK_advance_v : Cond.instanceMethod mDK_advance.1 ∈ sd_tbl ∧ Cond.selects "SequentDesk" mDK_advance.1 mDK_advance.1 ∈ sd_tbl := ⟨(sd_memT (sd_in4 (List.mem_of_getElem? (i := 42) rfl)) rfl), sd_memS (y := mDK_advance.1) 30 rfl⟩
theorem mDK_clear_v : Cond.instanceMethod mDK_clear.1 ∈ sd_tbl ∧ Cond.selects "SequentDesk" mDK_clear.1 mDK_clear.1 ∈ sd_tbl := ⟨(sd_memT (sd_in2 (List.mem_of_getElem? (i := 87) rfl)) rfl), (sd_memT (sd_in2 (List.mem_of_getElem? (i := 88) rfl)) rfl)⟩
theorem mDK_close_v : Cond.instanceMethod mDK_close.1 ∈ sd_tbl ∧ Cond.selects "SequentDesk" mDK_close.1 mDK_close.1 ∈ sd_tbl := ⟨(sd_memT (sd_in4 (List.mem_of_getElem? (i := 54) rfl)) rfl), (sd_memT (sd_in4 (List.mem_of_getElem? (i := 55) rfl)) rfl)⟩
theorem mDK_count_v : Cond.instanceMethod mDK_count.1 ∈ sd_tbl ∧ Cond.selects "SequentDesk" mDK_count.1 mDK_count.1 ∈ sd_tbl := ⟨(sd_memT (sd_in4 (List.mem_of_getElem? (i := 70) rfl)) rfl), (sd_memT (sd_in4 (List.mem_of_getElem? (i := 71) rfl)) rfl)⟩
theorem mDK_declare_v : Cond.instanceMethod mDK_declare.1 ∈ sd_tbl ∧ Cond.selects "SequentDesk" mDK_declare.1 mDK_declare.1 ∈ sd_tbl := ⟨(sd_memT (sd_in2 (List.mem_of_getElem? (i := 76) rfl)) rfl), (sd_memT (sd_in2 (List.mem_of_getElem? (i := 77) rfl)) rfl)⟩
theorem mDK_function_v : Cond.instanceMethod mDK_function.1 ∈ sd_tbl ∧ Cond.selects "SequentDesk" mDK_function.1 mDK_function.1 ∈ sd_tbl := ⟨(sd_memT (sd_in2 (List.mem_of_getElem? (i := 60) rfl)) rfl), (sd_memT (sd_in2 (List.mem_of_getElem? (i := 61) rfl)) rfl)⟩
theorem mDK_goal_v : Cond.instanceMethod mDK_goal.1 ∈ sd_tbl ∧ Cond.selects "SequentDesk" mDK_goal.1 mDK_goal.1 ∈ sd_tbl := ⟨(sd_memT (sd_in3 (List.mem_of_getElem? (i := 159) rfl)) rfl), (sd_memT (sd_in3 (List.mem_of_getElem? (i := 160) rfl)) rfl)⟩
theorem mDK_hypothesis_v : Cond.instanceMethod mDK_hypothesis.1 ∈ sd_tbl ∧ Cond.selects "SequentDesk" mDK_hypothesis.1 mDK_hypothesis.1 ∈ sd_tbl := ⟨(sd_memT (sd_in3 (List.mem_of_getElem? (i := 155) rfl)) rfl), (sd_memT (sd_in3 (List.mem_of_getElem? (i := 156) rfl)) rfl)⟩
theorem mDK_open_v : Cond.instanceMethod mDK_open.1 ∈ sd_tbl ∧ Cond.selects "SequentDesk" mDK_open.1 mDK_open.1 ∈ sd_tbl := ⟨(sd_memT (sd_in4 (List.mem_of_getElem? (i := 49) rfl)) rfl), (sd_memT (sd_in4 (List.mem_of_getElem? (i := 50) rfl)) rfl)⟩
theorem mDK_read_v : Cond.instanceMethod mDK_read.1 ∈ sd_tbl ∧ Cond.selects "SequentDesk" mDK_read.1 mDK_read.1 ∈ sd_tbl := ⟨(sd_memT (sd_in2 (List.mem_of_getElem? (i := 91) rfl)) rfl), (sd_memT (sd_in2 (List.mem_of_getElem? (i := 92) rfl)) rfl)⟩
theorem mDK_repeat_v : Cond.instanceMethod mDK_repeat.1 ∈ sd_tbl ∧ Cond.selects "SequentDesk" mDK_repeat.1 mDK_repeat.1 ∈ sd_tbl := ⟨(sd_memT (sd_in4 (List.mem_of_getElem? (i := 37) rfl)) rfl), (sd_memT (sd_in4 (List.mem_of_getElem? (i := 38) rfl)) rfl)⟩
theorem mDK_rule_v : Cond.instanceMethod mDK_rule.1 ∈ sd_tbl ∧ Cond.selects "SequentDesk" mDK_rule.1 mDK_rule.1 ∈ sd_tbl := ⟨(sd_memT (sd_in2 (List.mem_of_getElem? (i := 233) rfl)) rfl), (sd_memT (sd_in2 (List.mem_of_getElem? (i := 234) rfl)) rfl)⟩
theorem mDK_symbol_v : Cond.instanceMethod mDK_symbol.1 ∈ sd_tbl ∧ Cond.selects "SequentDesk" mDK_symbol.1 mDK_symbol.1 ∈ sd_tbl := ⟨(sd_memT (sd_in2 (List.mem_of_getElem? (i := 229) rfl)) rfl), (sd_memT (sd_in2 (List.mem_of_getElem? (i := 230) rfl)) rfl)⟩
theorem mDK_tactic_v : Cond.instanceMethod mDK_tactic.1 ∈ sd_tbl ∧ Cond.selects "SequentDesk" mDK_tactic.1 mDK_tactic.1 ∈ sd_tbl := ⟨(sd_memT (sd_in3 (List.mem_of_getElem? (i := 173) rfl)) rfl), (sd_memT (sd_in3 (List.mem_of_getElem? (i := 174) rfl)) rfl)⟩
theorem mDK_term_v : Cond.instanceMethod mDK_term.1 ∈ sd_tbl ∧ Cond.selects "SequentDesk" mDK_term.1 mDK_term.1 ∈ sd_tbl := ⟨(sd_memT (sd_in2 (List.mem_of_getElem? (i := 210) rfl)) rfl), (sd_memT (sd_in2 (List.mem_of_getElem? (i := 211) rfl)) rfl)⟩
theorem mDK_theorem_v : Cond.instanceMethod mDK_theorem.1 ∈ sd_tbl ∧ Cond.selects "SequentDesk" mDK_theorem.1 mDK_theorem.1 ∈ sd_tbl := ⟨(sd_memT (sd_in3 (List.mem_of_getElem? (i := 144) rfl)) rfl), (sd_memT (sd_in3 (List.mem_of_getElem? (i := 145) rfl)) rfl)⟩
theorem mDK_token_v : Cond.instanceMethod mDK_token.1 ∈ sd_tbl ∧ Cond.selects "SequentDesk" mDK_token.1 mDK_token.1 ∈ sd_tbl := ⟨(sd_memT (sd_in2 (List.mem_of_getElem? (i := 83) rfl)) rfl), (sd_memT (sd_in2 (List.mem_of_getElem? (i := 84) rfl)) rfl)⟩
theorem mDK_undo_v : Cond.instanceMethod mDK_undo.1 ∈ sd_tbl ∧ Cond.selects "SequentDesk" mDK_undo.1 mDK_undo.1 ∈ sd_tbl := ⟨(sd_memT (sd_in4 (List.mem_of_getElem? (i := 29) rfl)) rfl), (sd_memT (sd_in4 (List.mem_of_getElem? (i := 30) rfl)) rfl)⟩
theorem mDR_init_i : Cond.instanceMethod mDR_init.1 ∈ sd_tbl := (sd_memT (sd_in1 (List.mem_of_getElem? (i := 94) rfl)) rfl)
theorem mDR_binderOf_v : Cond.instanceMethod mDR_binderOf.1 ∈ sd_tbl ∧ Cond.selects "SequentDesk$Draft" mDR_binderOf.1 mDR_binderOf.1 ∈ sd_tbl := ⟨(sd_memT (sd_in2 (List.mem_of_getElem? (i := 132) rfl)) rfl), sd_memS (y := mDR_binderOf.1) 0 rfl⟩
theorem mDR_isWhole_v : Cond.instanceMethod mDR_isWhole.1 ∈ sd_tbl ∧ Cond.selects "SequentDesk$Draft" mDR_isWhole.1 mDR_isWhole.1 ∈ sd_tbl := ⟨(sd_memT (sd_in2 (List.mem_of_getElem? (i := 95) rfl)) rfl), (sd_memT (sd_in2 (List.mem_of_getElem? (i := 96) rfl)) rfl)⟩
theorem mDR_writeTo_v : Cond.instanceMethod mDR_writeTo.1 ∈ sd_tbl ∧ Cond.selects "SequentDesk$Draft" mDR_writeTo.1 mDR_writeTo.1 ∈ sd_tbl := ⟨(sd_memT (sd_in2 (List.mem_of_getElem? (i := 117) rfl)) rfl), (sd_memT (sd_in2 (List.mem_of_getElem? (i := 118) rfl)) rfl)⟩
theorem mGL_init_i : Cond.instanceMethod mGL_init.1 ∈ sd_tbl := (sd_memT (sd_in1 (List.mem_of_getElem? (i := 234) rfl)) rfl)
theorem mGS_init_i : Cond.instanceMethod mGS_init.1 ∈ sd_tbl := (sd_memT (sd_in1 (List.mem_of_getElem? (i := 227) rfl)) rfl)
theorem mGS_attempt_v : Cond.instanceMethod mGS_attempt.1 ∈ sd_tbl ∧ Cond.selects "SequentDesk$Goals" mGS_attempt.1 mGS_attempt.1 ∈ sd_tbl := ⟨(sd_memT (sd_in3 (List.mem_of_getElem? (i := 177) rfl)) rfl), (sd_memT (sd_in3 (List.mem_of_getElem? (i := 178) rfl)) rfl)⟩
theorem mGS_beginWith_v : Cond.instanceMethod mGS_beginWith.1 ∈ sd_tbl ∧ Cond.selects "SequentDesk$Goals" mGS_beginWith.1 mGS_beginWith.1 ∈ sd_tbl := ⟨(sd_memT (sd_in3 (List.mem_of_getElem? (i := 163) rfl)) rfl), (sd_memT (sd_in3 (List.mem_of_getElem? (i := 164) rfl)) rfl)⟩
theorem mGS_canName_v : Cond.instanceMethod mGS_canName.1 ∈ sd_tbl ∧ Cond.selects "SequentDesk$Goals" mGS_canName.1 mGS_canName.1 ∈ sd_tbl := ⟨(sd_memT (sd_in3 (List.mem_of_getElem? (i := 204) rfl)) rfl), sd_memS (y := mGS_canName.1) 23 rfl⟩
theorem mGS_drop_v : Cond.instanceMethod mGS_drop.1 ∈ sd_tbl ∧ Cond.selects "SequentDesk$Goals" mGS_drop.1 mGS_drop.1 ∈ sd_tbl := ⟨(sd_memT (sd_in3 (List.mem_of_getElem? (i := 168) rfl)) rfl), sd_memS (y := mGS_drop.1) 20 rfl⟩
theorem mGS_finish_v : Cond.instanceMethod mGS_finish.1 ∈ sd_tbl ∧ Cond.selects "SequentDesk$Goals" mGS_finish.1 mGS_finish.1 ∈ sd_tbl := ⟨(sd_memT (sd_in4 (List.mem_of_getElem? (i := 58) rfl)) rfl), (sd_memT (sd_in4 (List.mem_of_getElem? (i := 59) rfl)) rfl)⟩
theorem mGS_fits_v : Cond.instanceMethod mGS_fits.1 ∈ sd_tbl ∧ Cond.selects "SequentDesk$Goals" mGS_fits.1 mGS_fits.1 ∈ sd_tbl := ⟨(sd_memT (sd_in3 (List.mem_of_getElem? (i := 193) rfl)) rfl), sd_memS (y := mGS_fits.1) 22 rfl⟩
theorem mGS_heir_v : Cond.instanceMethod mGS_heir.1 ∈ sd_tbl ∧ Cond.selects "SequentDesk$Goals" mGS_heir.1 mGS_heir.1 ∈ sd_tbl := ⟨(sd_memT (sd_in3 (List.mem_of_getElem? (i := 230) rfl)) rfl), sd_memS (y := mGS_heir.1) 26 rfl⟩
theorem mGS_isReduced_v : Cond.instanceMethod mGS_isReduced.1 ∈ sd_tbl ∧ Cond.selects "SequentDesk$Goals" mGS_isReduced.1 mGS_isReduced.1 ∈ sd_tbl := ⟨(sd_memT (sd_in3 (List.mem_of_getElem? (i := 212) rfl)) rfl), sd_memS (y := mGS_isReduced.1) 24 rfl⟩
theorem mGS_isThere_v : Cond.instanceMethod mGS_isThere.1 ∈ sd_tbl ∧ Cond.selects "SequentDesk$Goals" mGS_isThere.1 mGS_isThere.1 ∈ sd_tbl := ⟨(sd_memT (sd_in3 (List.mem_of_getElem? (i := 182) rfl)) rfl), sd_memS (y := mGS_isThere.1) 21 rfl⟩
theorem mGS_keepBodies_v : Cond.instanceMethod mGS_keepBodies.1 ∈ sd_tbl ∧ Cond.selects "SequentDesk$Goals" mGS_keepBodies.1 mGS_keepBodies.1 ∈ sd_tbl := ⟨(sd_memT (sd_in4 (List.mem_of_getElem? (i := 7) rfl)) rfl), sd_memS (y := mGS_keepBodies.1) 27 rfl⟩
theorem mGS_leave_v : Cond.instanceMethod mGS_leave.1 ∈ sd_tbl ∧ Cond.selects "SequentDesk$Goals" mGS_leave.1 mGS_leave.1 ∈ sd_tbl := ⟨(sd_memT (sd_in3 (List.mem_of_getElem? (i := 226) rfl)) rfl), sd_memS (y := mGS_leave.1) 25 rfl⟩
theorem mGS_leftBig_v : Cond.instanceMethod mGS_leftBig.1 ∈ sd_tbl ∧ Cond.selects "SequentDesk$Goals" mGS_leftBig.1 mGS_leftBig.1 ∈ sd_tbl := ⟨(sd_memT (sd_in4 (List.mem_of_getElem? (i := 19) rfl)) rfl), sd_memS (y := mGS_leftBig.1) 28 rfl⟩
theorem mGS_openGoal_v : Cond.instanceMethod mGS_openGoal.1 ∈ sd_tbl ∧ Cond.selects "SequentDesk$Goals" mGS_openGoal.1 mGS_openGoal.1 ∈ sd_tbl := ⟨(sd_memT (sd_in3 (List.mem_of_getElem? (i := 188) rfl)) rfl), (sd_memT (sd_in3 (List.mem_of_getElem? (i := 189) rfl)) rfl)⟩
theorem mGS_prove_v : Cond.instanceMethod mGS_prove.1 ∈ sd_tbl ∧ Cond.selects "SequentDesk$Goals" mGS_prove.1 mGS_prove.1 ∈ sd_tbl := ⟨(sd_memT (sd_in4 (List.mem_of_getElem? (i := 63) rfl)) rfl), sd_memS (y := mGS_prove.1) 31 rfl⟩
theorem mGS_take_v : Cond.instanceMethod mGS_take.1 ∈ sd_tbl ∧ Cond.selects "SequentDesk$Goals" mGS_take.1 mGS_take.1 ∈ sd_tbl := ⟨(sd_memT (sd_in4 (List.mem_of_getElem? (i := 26) rfl)) rfl), sd_memS (y := mGS_take.1) 29 rfl⟩
theorem mGS_takeBack_v : Cond.instanceMethod mGS_takeBack.1 ∈ sd_tbl ∧ Cond.selects "SequentDesk$Goals" mGS_takeBack.1 mGS_takeBack.1 ∈ sd_tbl := ⟨(sd_memT (sd_in4 (List.mem_of_getElem? (i := 33) rfl)) rfl), (sd_memT (sd_in4 (List.mem_of_getElem? (i := 34) rfl)) rfl)⟩
theorem mIN_init_i : Cond.instanceMethod mIN_init.1 ∈ sd_tbl := (sd_memT (sd_in1 (List.mem_of_getElem? (i := 113) rfl)) rfl)
theorem mIN_begin_v : Cond.instanceMethod mIN_begin.1 ∈ sd_tbl ∧ Cond.selects "SequentDesk$Inference" mIN_begin.1 mIN_begin.1 ∈ sd_tbl := ⟨(sd_memT (sd_in2 (List.mem_of_getElem? (i := 144) rfl)) rfl), sd_memS (y := mIN_begin.1) 1 rfl⟩
theorem mIN_demand_v : Cond.instanceMethod mIN_demand.1 ∈ sd_tbl ∧ Cond.selects "SequentDesk$Inference" mIN_demand.1 mIN_demand.1 ∈ sd_tbl := ⟨(sd_memT (sd_in2 (List.mem_of_getElem? (i := 155) rfl)) rfl), sd_memS (y := mIN_demand.1) 3 rfl⟩
theorem mIN_equate_v : Cond.instanceMethod mIN_equate.1 ∈ sd_tbl ∧ Cond.selects "SequentDesk$Inference" mIN_equate.1 mIN_equate.1 ∈ sd_tbl := ⟨(sd_memT (sd_in2 (List.mem_of_getElem? (i := 151) rfl)) rfl), sd_memS (y := mIN_equate.1) 2 rfl⟩
theorem mIN_firstRefusal_v : Cond.instanceMethod mIN_firstRefusal.1 ∈ sd_tbl ∧ Cond.selects "SequentDesk$Inference" mIN_firstRefusal.1 mIN_firstRefusal.1 ∈ sd_tbl := ⟨(sd_memT (sd_in2 (List.mem_of_getElem? (i := 195) rfl)) rfl), sd_memS (y := mIN_firstRefusal.1) 10 rfl⟩
theorem mIN_functionNode_v : Cond.instanceMethod mIN_functionNode.1 ∈ sd_tbl ∧ Cond.selects "SequentDesk$Inference" mIN_functionNode.1 mIN_functionNode.1 ∈ sd_tbl := ⟨(sd_memT (sd_in2 (List.mem_of_getElem? (i := 159) rfl)) rfl), sd_memS (y := mIN_functionNode.1) 4 rfl⟩
theorem mIN_giveTypes_v : Cond.instanceMethod mIN_giveTypes.1 ∈ sd_tbl ∧ Cond.selects "SequentDesk$Inference" mIN_giveTypes.1 mIN_giveTypes.1 ∈ sd_tbl := ⟨(sd_memT (sd_in2 (List.mem_of_getElem? (i := 139) rfl)) rfl), (sd_memT (sd_in2 (List.mem_of_getElem? (i := 140) rfl)) rfl)⟩
theorem mIN_nodeOf_v : Cond.instanceMethod mIN_nodeOf.1 ∈ sd_tbl ∧ Cond.selects "SequentDesk$Inference" mIN_nodeOf.1 mIN_nodeOf.1 ∈ sd_tbl := ⟨(sd_memT (sd_in2 (List.mem_of_getElem? (i := 165) rfl)) rfl), sd_memS (y := mIN_nodeOf.1) 5 rfl⟩
theorem mIN_root_v : Cond.instanceMethod mIN_root.1 ∈ sd_tbl ∧ Cond.selects "SequentDesk$Inference" mIN_root.1 mIN_root.1 ∈ sd_tbl := ⟨(sd_memT (sd_in2 (List.mem_of_getElem? (i := 182) rfl)) rfl), sd_memS (y := mIN_root.1) 7 rfl⟩
theorem mIN_solve_v : Cond.instanceMethod mIN_solve.1 ∈ sd_tbl ∧ Cond.selects "SequentDesk$Inference" mIN_solve.1 mIN_solve.1 ∈ sd_tbl := ⟨(sd_memT (sd_in2 (List.mem_of_getElem? (i := 178) rfl)) rfl), sd_memS (y := mIN_solve.1) 6 rfl⟩
theorem mIN_typeOf_v : Cond.instanceMethod mIN_typeOf.1 ∈ sd_tbl ∧ Cond.selects "SequentDesk$Inference" mIN_typeOf.1 mIN_typeOf.1 ∈ sd_tbl := ⟨(sd_memT (sd_in2 (List.mem_of_getElem? (i := 190) rfl)) rfl), sd_memS (y := mIN_typeOf.1) 9 rfl⟩
theorem mIN_workOut_v : Cond.instanceMethod mIN_workOut.1 ∈ sd_tbl ∧ Cond.selects "SequentDesk$Inference" mIN_workOut.1 mIN_workOut.1 ∈ sd_tbl := ⟨(sd_memT (sd_in2 (List.mem_of_getElem? (i := 186) rfl)) rfl), sd_memS (y := mIN_workOut.1) 8 rfl⟩
theorem mRU_init_i : Cond.instanceMethod mRU_init.1 ∈ sd_tbl := (sd_memT (sd_in1 (List.mem_of_getElem? (i := 147) rfl)) rfl)
theorem mRU_areThere_v : Cond.instanceMethod mRU_areThere.1 ∈ sd_tbl ∧ Cond.selects "SequentDesk$Rules" mRU_areThere.1 mRU_areThere.1 ∈ sd_tbl := ⟨(sd_memT (sd_in3 (List.mem_of_getElem? (i := 2) rfl)) rfl), sd_memS (y := mRU_areThere.1) 11 rfl⟩
theorem mRU_begin_v : Cond.instanceMethod mRU_begin.1 ∈ sd_tbl ∧ Cond.selects "SequentDesk$Rules" mRU_begin.1 mRU_begin.1 ∈ sd_tbl := ⟨(sd_memT (sd_in3 (List.mem_of_getElem? (i := 61) rfl)) rfl), sd_memS (y := mRU_begin.1) 15 rfl⟩
theorem mRU_conclusionOf_v : Cond.instanceMethod mRU_conclusionOf.1 ∈ sd_tbl ∧ Cond.selects "SequentDesk$Rules" mRU_conclusionOf.1 mRU_conclusionOf.1 ∈ sd_tbl := ⟨(sd_memT (sd_in3 (List.mem_of_getElem? (i := 16) rfl)) rfl), sd_memS (y := mRU_conclusionOf.1) 13 rfl⟩
theorem mRU_fit_v : Cond.instanceMethod mRU_fit.1 ∈ sd_tbl ∧ Cond.selects "SequentDesk$Rules" mRU_fit.1 mRU_fit.1 ∈ sd_tbl := ⟨(sd_memT (sd_in3 (List.mem_of_getElem? (i := 12) rfl)) rfl), sd_memS (y := mRU_fit.1) 12 rfl⟩
theorem mRU_gather_v : Cond.instanceMethod mRU_gather.1 ∈ sd_tbl ∧ Cond.selects "SequentDesk$Rules" mRU_gather.1 mRU_gather.1 ∈ sd_tbl := ⟨(sd_memT (sd_in3 (List.mem_of_getElem? (i := 131) rfl)) rfl), sd_memS (y := mRU_gather.1) 19 rfl⟩
theorem mRU_has_v : Cond.instanceMethod mRU_has.1 ∈ sd_tbl ∧ Cond.selects "SequentDesk$Rules" mRU_has.1 mRU_has.1 ∈ sd_tbl := ⟨(sd_memT (sd_in3 (List.mem_of_getElem? (i := 6) rfl)) rfl), (sd_memT (sd_in3 (List.mem_of_getElem? (i := 7) rfl)) rfl)⟩
theorem mRU_make_v : Cond.instanceMethod mRU_make.1 ∈ sd_tbl ∧ Cond.selects "SequentDesk$Rules" mRU_make.1 mRU_make.1 ∈ sd_tbl := ⟨(sd_memT (sd_in2 (List.mem_of_getElem? (i := 237) rfl)) rfl), (sd_memT (sd_in2 (List.mem_of_getElem? (i := 238) rfl)) rfl)⟩
theorem mRU_makeFor_v : Cond.instanceMethod mRU_makeFor.1 ∈ sd_tbl ∧ Cond.selects "SequentDesk$Rules" mRU_makeFor.1 mRU_makeFor.1 ∈ sd_tbl := ⟨(sd_memT (sd_in4 (List.mem_of_getElem? (i := 66) rfl)) rfl), (sd_memT (sd_in4 (List.mem_of_getElem? (i := 67) rfl)) rfl)⟩
theorem mRU_replaceHypotheses_v : Cond.instanceMethod mRU_replaceHypotheses.1 ∈ sd_tbl ∧ Cond.selects "SequentDesk$Rules" mRU_replaceHypotheses.1 mRU_replaceHypotheses.1 ∈ sd_tbl := ⟨(sd_memT (sd_in3 (List.mem_of_getElem? (i := 69) rfl)) rfl), sd_memS (y := mRU_replaceHypotheses.1) 16 rfl⟩
theorem mRU_write_v : Cond.instanceMethod mRU_write.1 ∈ sd_tbl ∧ Cond.selects "SequentDesk$Rules" mRU_write.1 mRU_write.1 ∈ sd_tbl := ⟨(sd_memT (sd_in3 (List.mem_of_getElem? (i := 55) rfl)) rfl), sd_memS (y := mRU_write.1) 14 rfl⟩
theorem mRU_writeAbstracted_v : Cond.instanceMethod mRU_writeAbstracted.1 ∈ sd_tbl ∧ Cond.selects "SequentDesk$Rules" mRU_writeAbstracted.1 mRU_writeAbstracted.1 ∈ sd_tbl := ⟨(sd_memT (sd_in3 (List.mem_of_getElem? (i := 110) rfl)) rfl), sd_memS (y := mRU_writeAbstracted.1) 18 rfl⟩
theorem mRU_writeConclusion_v : Cond.instanceMethod mRU_writeConclusion.1 ∈ sd_tbl ∧ Cond.selects "SequentDesk$Rules" mRU_writeConclusion.1 mRU_writeConclusion.1 ∈ sd_tbl := ⟨(sd_memT (sd_in3 (List.mem_of_getElem? (i := 92) rfl)) rfl), sd_memS (y := mRU_writeConclusion.1) 17 rfl⟩
theorem mST_init_i : Cond.instanceMethod mST_init.1 ∈ sd_tbl := (sd_memT (sd_in1 (List.mem_of_getElem? (i := 160) rfl)) rfl)
theorem mST_assume_v : Cond.instanceMethod mST_assume.1 ∈ sd_tbl ∧ Cond.selects "SequentDesk$Statement" mST_assume.1 mST_assume.1 ∈ sd_tbl := ⟨(sd_memT (sd_in3 (List.mem_of_getElem? (i := 83) rfl)) rfl), (sd_memT (sd_in3 (List.mem_of_getElem? (i := 84) rfl)) rfl)⟩
theorem mST_assumeThoseBut_v : Cond.instanceMethod mST_assumeThoseBut.1 ∈ sd_tbl ∧ Cond.selects "SequentDesk$Statement" mST_assumeThoseBut.1 mST_assumeThoseBut.1 ∈ sd_tbl := ⟨(sd_memT (sd_in3 (List.mem_of_getElem? (i := 134) rfl)) rfl), (sd_memT (sd_in3 (List.mem_of_getElem? (i := 135) rfl)) rfl)⟩
theorem mST_assumeThoseOf_v : Cond.instanceMethod mST_assumeThoseOf.1 ∈ sd_tbl ∧ Cond.selects "SequentDesk$Statement" mST_assumeThoseOf.1 mST_assumeThoseOf.1 ∈ sd_tbl := ⟨(sd_memT (sd_in3 (List.mem_of_getElem? (i := 139) rfl)) rfl), (sd_memT (sd_in3 (List.mem_of_getElem? (i := 140) rfl)) rfl)⟩
theorem mST_assumes_v : Cond.instanceMethod mST_assumes.1 ∈ sd_tbl ∧ Cond.selects "SequentDesk$Statement" mST_assumes.1 mST_assumes.1 ∈ sd_tbl := ⟨(sd_memT (sd_in3 (List.mem_of_getElem? (i := 87) rfl)) rfl), (sd_memT (sd_in3 (List.mem_of_getElem? (i := 88) rfl)) rfl)⟩
theorem mST_assumesThoseOf_v : Cond.instanceMethod mST_assumesThoseOf.1 ∈ sd_tbl ∧ Cond.selects "SequentDesk$Statement" mST_assumesThoseOf.1 mST_assumesThoseOf.1 ∈ sd_tbl := ⟨(sd_memT (sd_in3 (List.mem_of_getElem? (i := 221) rfl)) rfl), (sd_memT (sd_in3 (List.mem_of_getElem? (i := 222) rfl)) rfl)⟩
theorem mST_begin_v : Cond.instanceMethod mST_begin.1 ∈ sd_tbl ∧ Cond.selects "SequentDesk$Statement" mST_begin.1 mST_begin.1 ∈ sd_tbl := ⟨(sd_memT (sd_in3 (List.mem_of_getElem? (i := 64) rfl)) rfl), (sd_memT (sd_in3 (List.mem_of_getElem? (i := 65) rfl)) rfl)⟩
theorem mST_conclude_v : Cond.instanceMethod mST_conclude.1 ∈ sd_tbl ∧ Cond.selects "SequentDesk$Statement" mST_conclude.1 mST_conclude.1 ∈ sd_tbl := ⟨(sd_memT (sd_in3 (List.mem_of_getElem? (i := 126) rfl)) rfl), (sd_memT (sd_in3 (List.mem_of_getElem? (i := 127) rfl)) rfl)⟩
theorem mTM_init_i : Cond.instanceMethod mTM_init.1 ∈ sd_tbl := (sd_memT (sd_in1 (List.mem_of_getElem? (i := 33) rfl)) rfl)
theorem mTM_add_v : Cond.instanceMethod mTM_add.1 ∈ sd_tbl ∧ Cond.selects "SequentDesk$Term" mTM_add.1 mTM_add.1 ∈ sd_tbl := ⟨(sd_memT (sd_in2 (List.mem_of_getElem? (i := 121) rfl)) rfl), (sd_memT (sd_in2 (List.mem_of_getElem? (i := 122) rfl)) rfl)⟩
theorem mTM_addEquation_v : Cond.instanceMethod mTM_addEquation.1 ∈ sd_tbl ∧ Cond.selects "SequentDesk$Term" mTM_addEquation.1 mTM_addEquation.1 ∈ sd_tbl := ⟨(sd_memT (sd_in3 (List.mem_of_getElem? (i := 95) rfl)) rfl), (sd_memT (sd_in3 (List.mem_of_getElem? (i := 96) rfl)) rfl)⟩
theorem mTM_addFilled_v : Cond.instanceMethod mTM_addFilled.1 ∈ sd_tbl ∧ Cond.selects "SequentDesk$Term" mTM_addFilled.1 mTM_addFilled.1 ∈ sd_tbl := ⟨(sd_memT (sd_in3 (List.mem_of_getElem? (i := 122) rfl)) rfl), (sd_memT (sd_in3 (List.mem_of_getElem? (i := 123) rfl)) rfl)⟩
theorem mTM_addLambda_v : Cond.instanceMethod mTM_addLambda.1 ∈ sd_tbl ∧ Cond.selects "SequentDesk$Term" mTM_addLambda.1 mTM_addLambda.1 ∈ sd_tbl := ⟨(sd_memT (sd_in3 (List.mem_of_getElem? (i := 114) rfl)) rfl), (sd_memT (sd_in3 (List.mem_of_getElem? (i := 115) rfl)) rfl)⟩
theorem mTM_addPart_v : Cond.instanceMethod mTM_addPart.1 ∈ sd_tbl ∧ Cond.selects "SequentDesk$Term" mTM_addPart.1 mTM_addPart.1 ∈ sd_tbl := ⟨(sd_memT (sd_in3 (List.mem_of_getElem? (i := 77) rfl)) rfl), (sd_memT (sd_in3 (List.mem_of_getElem? (i := 78) rfl)) rfl)⟩
theorem mTM_addReplaced_v : Cond.instanceMethod mTM_addReplaced.1 ∈ sd_tbl ∧ Cond.selects "SequentDesk$Term" mTM_addReplaced.1 mTM_addReplaced.1 ∈ sd_tbl := ⟨(sd_memT (sd_in3 (List.mem_of_getElem? (i := 73) rfl)) rfl), (sd_memT (sd_in3 (List.mem_of_getElem? (i := 74) rfl)) rfl)⟩
theorem mTM_addUse_v : Cond.instanceMethod mTM_addUse.1 ∈ sd_tbl ∧ Cond.selects "SequentDesk$Term" mTM_addUse.1 mTM_addUse.1 ∈ sd_tbl := ⟨(sd_memT (sd_in3 (List.mem_of_getElem? (i := 105) rfl)) rfl), (sd_memT (sd_in3 (List.mem_of_getElem? (i := 106) rfl)) rfl)⟩
theorem mTM_begin_v : Cond.instanceMethod mTM_begin.1 ∈ sd_tbl ∧ Cond.selects "SequentDesk$Term" mTM_begin.1 mTM_begin.1 ∈ sd_tbl := ⟨(sd_memT (sd_in2 (List.mem_of_getElem? (i := 113) rfl)) rfl), (sd_memT (sd_in2 (List.mem_of_getElem? (i := 114) rfl)) rfl)⟩
theorem mTM_deepness_v : Cond.instanceMethod mTM_deepness.1 ∈ sd_tbl ∧ Cond.selects "SequentDesk$Term" mTM_deepness.1 mTM_deepness.1 ∈ sd_tbl := ⟨(sd_memT (sd_in2 (List.mem_of_getElem? (i := 222) rfl)) rfl), (sd_memT (sd_in2 (List.mem_of_getElem? (i := 223) rfl)) rfl)⟩
theorem mTM_hasName_v : Cond.instanceMethod mTM_hasName.1 ∈ sd_tbl ∧ Cond.selects "SequentDesk$Term" mTM_hasName.1 mTM_hasName.1 ∈ sd_tbl := ⟨(sd_memT (sd_in3 (List.mem_of_getElem? (i := 42) rfl)) rfl), (sd_memT (sd_in3 (List.mem_of_getElem? (i := 43) rfl)) rfl)⟩
theorem mTM_isEquation_v : Cond.instanceMethod mTM_isEquation.1 ∈ sd_tbl ∧ Cond.selects "SequentDesk$Term" mTM_isEquation.1 mTM_isEquation.1 ∈ sd_tbl := ⟨(sd_memT (sd_in3 (List.mem_of_getElem? (i := 22) rfl)) rfl), (sd_memT (sd_in3 (List.mem_of_getElem? (i := 23) rfl)) rfl)⟩
theorem mTM_isRedex_v : Cond.instanceMethod mTM_isRedex.1 ∈ sd_tbl ∧ Cond.selects "SequentDesk$Term" mTM_isRedex.1 mTM_isRedex.1 ∈ sd_tbl := ⟨(sd_memT (sd_in3 (List.mem_of_getElem? (i := 47) rfl)) rfl), (sd_memT (sd_in3 (List.mem_of_getElem? (i := 48) rfl)) rfl)⟩
theorem mTM_lambdasAround_v : Cond.instanceMethod mTM_lambdasAround.1 ∈ sd_tbl ∧ Cond.selects "SequentDesk$Term" mTM_lambdasAround.1 mTM_lambdasAround.1 ∈ sd_tbl := ⟨(sd_memT (sd_in2 (List.mem_of_getElem? (i := 135) rfl)) rfl), (sd_memT (sd_in2 (List.mem_of_getElem? (i := 136) rfl)) rfl)⟩
theorem mTM_names_v : Cond.instanceMethod mTM_names.1 ∈ sd_tbl ∧ Cond.selects "SequentDesk$Term" mTM_names.1 mTM_names.1 ∈ sd_tbl := ⟨(sd_memT (sd_in2 (List.mem_of_getElem? (i := 218) rfl)) rfl), (sd_memT (sd_in2 (List.mem_of_getElem? (i := 219) rfl)) rfl)⟩
theorem mTM_right_v : Cond.instanceMethod mTM_right.1 ∈ sd_tbl ∧ Cond.selects "SequentDesk$Term" mTM_right.1 mTM_right.1 ∈ sd_tbl := ⟨(sd_memT (sd_in3 (List.mem_of_getElem? (i := 26) rfl)) rfl), (sd_memT (sd_in3 (List.mem_of_getElem? (i := 27) rfl)) rfl)⟩
theorem mTM_settle_v : Cond.instanceMethod mTM_settle.1 ∈ sd_tbl ∧ Cond.selects "SequentDesk$Term" mTM_settle.1 mTM_settle.1 ∈ sd_tbl := ⟨(sd_memT (sd_in2 (List.mem_of_getElem? (i := 125) rfl)) rfl), (sd_memT (sd_in2 (List.mem_of_getElem? (i := 126) rfl)) rfl)⟩
theorem mTS_init_i : Cond.instanceMethod mTS_init.1 ∈ sd_tbl := (sd_memT (sd_in1 (List.mem_of_getElem? (i := 26) rfl)) rfl)
theorem mTS_fresh_v : Cond.instanceMethod mTS_fresh.1 ∈ sd_tbl ∧ Cond.selects "SequentDesk$Terms" mTS_fresh.1 mTS_fresh.1 ∈ sd_tbl := ⟨(sd_memT (sd_in2 (List.mem_of_getElem? (i := 108) rfl)) rfl), (sd_memT (sd_in2 (List.mem_of_getElem? (i := 109) rfl)) rfl)⟩
theorem mTS_has_v : Cond.instanceMethod mTS_has.1 ∈ sd_tbl ∧ Cond.selects "SequentDesk$Terms" mTS_has.1 mTS_has.1 ∈ sd_tbl := ⟨(sd_memT (sd_in2 (List.mem_of_getElem? (i := 214) rfl)) rfl), (sd_memT (sd_in2 (List.mem_of_getElem? (i := 215) rfl)) rfl)⟩
theorem mTS_inHypotheses_v : Cond.instanceMethod mTS_inHypotheses.1 ∈ sd_tbl ∧ Cond.selects "SequentDesk$Terms" mTS_inHypotheses.1 mTS_inHypotheses.1 ∈ sd_tbl := ⟨(sd_memT (sd_in3 (List.mem_of_getElem? (i := 38) rfl)) rfl), (sd_memT (sd_in3 (List.mem_of_getElem? (i := 39) rfl)) rfl)⟩
theorem mTS_keep_v : Cond.instanceMethod mTS_keep.1 ∈ sd_tbl ∧ Cond.selects "SequentDesk$Terms" mTS_keep.1 mTS_keep.1 ∈ sd_tbl := ⟨(sd_memT (sd_in2 (List.mem_of_getElem? (i := 198) rfl)) rfl), (sd_memT (sd_in2 (List.mem_of_getElem? (i := 199) rfl)) rfl)⟩
theorem mTS_keepEquation_v : Cond.instanceMethod mTS_keepEquation.1 ∈ sd_tbl ∧ Cond.selects "SequentDesk$Terms" mTS_keepEquation.1 mTS_keepEquation.1 ∈ sd_tbl := ⟨(sd_memT (sd_in3 (List.mem_of_getElem? (i := 234) rfl)) rfl), (sd_memT (sd_in3 (List.mem_of_getElem? (i := 235) rfl)) rfl)⟩
theorem mTS_keepPart_v : Cond.instanceMethod mTS_keepPart.1 ∈ sd_tbl ∧ Cond.selects "SequentDesk$Terms" mTS_keepPart.1 mTS_keepPart.1 ∈ sd_tbl := ⟨(sd_memT (sd_in4 (List.mem_of_getElem? (i := 12) rfl)) rfl), (sd_memT (sd_in4 (List.mem_of_getElem? (i := 13) rfl)) rfl)⟩
theorem mTS_nameRow_v : Cond.instanceMethod mTS_nameRow.1 ∈ sd_tbl ∧ Cond.selects "SequentDesk$Terms" mTS_nameRow.1 mTS_nameRow.1 ∈ sd_tbl := ⟨(sd_memT (sd_in4 (List.mem_of_getElem? (i := 1) rfl)) rfl), (sd_memT (sd_in4 (List.mem_of_getElem? (i := 2) rfl)) rfl)⟩
theorem mTS_overfull_v : Cond.instanceMethod mTS_overfull.1 ∈ sd_tbl ∧ Cond.selects "SequentDesk$Terms" mTS_overfull.1 mTS_overfull.1 ∈ sd_tbl := ⟨(sd_memT (sd_in2 (List.mem_of_getElem? (i := 206) rfl)) rfl), (sd_memT (sd_in2 (List.mem_of_getElem? (i := 207) rfl)) rfl)⟩
theorem mTH_init_i : Cond.instanceMethod mTH_init.1 ∈ sd_tbl := (sd_memT (sd_in1 (List.mem_of_getElem? (i := 154) rfl)) rfl)
theorem mMO_init_i : Cond.instanceMethod mMO_init.1 ∈ sd_tbl := (sd_memT (sd_in4 (List.mem_of_getElem? (i := 76) rfl)) rfl)
theorem mMO_add_v : Cond.instanceMethod mMO_add.1 ∈ sd_tbl ∧ Cond.selects "SequentDeskModel" mMO_add.1 mMO_add.1 ∈ sd_tbl := ⟨(sd_memT (sd_in5 (List.mem_of_getElem? (i := 4) rfl)) rfl), sd_memS (y := mMO_add.1) 35 rfl⟩
theorem mMO_around_v : Cond.instanceMethod mMO_around.1 ∈ sd_tbl ∧ Cond.selects "SequentDeskModel" mMO_around.1 mMO_around.1 ∈ sd_tbl := ⟨(sd_memT (sd_in5 (List.mem_of_getElem? (i := 140) rfl)) rfl), sd_memS (y := mMO_around.1) 63 rfl⟩
theorem mMO_assumes_v : Cond.instanceMethod mMO_assumes.1 ∈ sd_tbl ∧ Cond.selects "SequentDeskModel" mMO_assumes.1 mMO_assumes.1 ∈ sd_tbl := ⟨(sd_memT (sd_in5 (List.mem_of_getElem? (i := 184) rfl)) rfl), sd_memS (y := mMO_assumes.1) 70 rfl⟩
theorem mMO_begin_v : Cond.instanceMethod mMO_begin.1 ∈ sd_tbl ∧ Cond.selects "SequentDeskModel" mMO_begin.1 mMO_begin.1 ∈ sd_tbl := ⟨(sd_memT (sd_in5 (List.mem_of_getElem? (i := 0) rfl)) rfl), sd_memS (y := mMO_begin.1) 34 rfl⟩
theorem mMO_beta_v : Cond.instanceMethod mMO_beta.1 ∈ sd_tbl ∧ Cond.selects "SequentDeskModel" mMO_beta.1 mMO_beta.1 ∈ sd_tbl := ⟨(sd_memT (sd_in5 (List.mem_of_getElem? (i := 144) rfl)) rfl), sd_memS (y := mMO_beta.1) 64 rfl⟩
theorem mMO_binder_v : Cond.instanceMethod mMO_binder.1 ∈ sd_tbl ∧ Cond.selects "SequentDeskModel" mMO_binder.1 mMO_binder.1 ∈ sd_tbl := ⟨(sd_memT (sd_in5 (List.mem_of_getElem? (i := 43) rfl)) rfl), sd_memS (y := mMO_binder.1) 44 rfl⟩
theorem mMO_build_v : Cond.instanceMethod mMO_build.1 ∈ sd_tbl ∧ Cond.selects "SequentDeskModel" mMO_build.1 mMO_build.1 ∈ sd_tbl := ⟨(sd_memT (sd_in5 (List.mem_of_getElem? (i := 117) rfl)) rfl), sd_memS (y := mMO_build.1) 58 rfl⟩
theorem mMO_child_v : Cond.instanceMethod mMO_child.1 ∈ sd_tbl ∧ Cond.selects "SequentDeskModel" mMO_child.1 mMO_child.1 ∈ sd_tbl := ⟨(sd_memT (sd_in5 (List.mem_of_getElem? (i := 196) rfl)) rfl), sd_memS (y := mMO_child.1) 73 rfl⟩
theorem mMO_clear_v : Cond.instanceMethod mMO_clear.1 ∈ sd_tbl ∧ Cond.selects "SequentDeskModel" mMO_clear.1 mMO_clear.1 ∈ sd_tbl := ⟨(sd_memT (sd_in4 (List.mem_of_getElem? (i := 223) rfl)) rfl), (sd_memT (sd_in4 (List.mem_of_getElem? (i := 224) rfl)) rfl)⟩
theorem mMO_close_v : Cond.instanceMethod mMO_close.1 ∈ sd_tbl ∧ Cond.selects "SequentDeskModel" mMO_close.1 mMO_close.1 ∈ sd_tbl := ⟨(sd_memT (sd_in5 (List.mem_of_getElem? (i := 212) rfl)) rfl), (sd_memT (sd_in5 (List.mem_of_getElem? (i := 213) rfl)) rfl)⟩
theorem mMO_copy_v : Cond.instanceMethod mMO_copy.1 ∈ sd_tbl ∧ Cond.selects "SequentDeskModel" mMO_copy.1 mMO_copy.1 ∈ sd_tbl := ⟨(sd_memT (sd_in5 (List.mem_of_getElem? (i := 125) rfl)) rfl), sd_memS (y := mMO_copy.1) 60 rfl⟩
theorem mMO_count_v : Cond.instanceMethod mMO_count.1 ∈ sd_tbl ∧ Cond.selects "SequentDeskModel" mMO_count.1 mMO_count.1 ∈ sd_tbl := ⟨(sd_memT (sd_in5 (List.mem_of_getElem? (i := 220) rfl)) rfl), (sd_memT (sd_in5 (List.mem_of_getElem? (i := 221) rfl)) rfl)⟩
theorem mMO_declare_v : Cond.instanceMethod mMO_declare.1 ∈ sd_tbl ∧ Cond.selects "SequentDeskModel" mMO_declare.1 mMO_declare.1 ∈ sd_tbl := ⟨(sd_memT (sd_in4 (List.mem_of_getElem? (i := 215) rfl)) rfl), (sd_memT (sd_in4 (List.mem_of_getElem? (i := 216) rfl)) rfl)⟩
theorem mMO_derive_v : Cond.instanceMethod mMO_derive.1 ∈ sd_tbl ∧ Cond.selects "SequentDeskModel" mMO_derive.1 mMO_derive.1 ∈ sd_tbl := ⟨(sd_memT (sd_in5 (List.mem_of_getElem? (i := 217) rfl)) rfl), sd_memS (y := mMO_derive.1) 74 rfl⟩
theorem mMO_end_v : Cond.instanceMethod mMO_end.1 ∈ sd_tbl ∧ Cond.selects "SequentDeskModel" mMO_end.1 mMO_end.1 ∈ sd_tbl := ⟨(sd_memT (sd_in5 (List.mem_of_getElem? (i := 8) rfl)) rfl), sd_memS (y := mMO_end.1) 36 rfl⟩
theorem mMO_equal_v : Cond.instanceMethod mMO_equal.1 ∈ sd_tbl ∧ Cond.selects "SequentDeskModel" mMO_equal.1 mMO_equal.1 ∈ sd_tbl := ⟨(sd_memT (sd_in5 (List.mem_of_getElem? (i := 121) rfl)) rfl), sd_memS (y := mMO_equal.1) 59 rfl⟩
theorem mMO_find_v : Cond.instanceMethod mMO_find.1 ∈ sd_tbl ∧ Cond.selects "SequentDeskModel" mMO_find.1 mMO_find.1 ∈ sd_tbl := ⟨(sd_memT (sd_in5 (List.mem_of_getElem? (i := 55) rfl)) rfl), sd_memS (y := mMO_find.1) 47 rfl⟩
theorem mMO_fits_v : Cond.instanceMethod mMO_fits.1 ∈ sd_tbl ∧ Cond.selects "SequentDeskModel" mMO_fits.1 mMO_fits.1 ∈ sd_tbl := ⟨(sd_memT (sd_in5 (List.mem_of_getElem? (i := 95) rfl)) rfl), sd_memS (y := mMO_fits.1) 54 rfl⟩
theorem mMO_fresh_v : Cond.instanceMethod mMO_fresh.1 ∈ sd_tbl ∧ Cond.selects "SequentDeskModel" mMO_fresh.1 mMO_fresh.1 ∈ sd_tbl := ⟨(sd_memT (sd_in5 (List.mem_of_getElem? (i := 19) rfl)) rfl), sd_memS (y := mMO_fresh.1) 38 rfl⟩
theorem mMO_function_v : Cond.instanceMethod mMO_function.1 ∈ sd_tbl ∧ Cond.selects "SequentDeskModel" mMO_function.1 mMO_function.1 ∈ sd_tbl := ⟨(sd_memT (sd_in4 (List.mem_of_getElem? (i := 195) rfl)) rfl), (sd_memT (sd_in4 (List.mem_of_getElem? (i := 196) rfl)) rfl)⟩
theorem mMO_gather_v : Cond.instanceMethod mMO_gather.1 ∈ sd_tbl ∧ Cond.selects "SequentDeskModel" mMO_gather.1 mMO_gather.1 ∈ sd_tbl := ⟨(sd_memT (sd_in5 (List.mem_of_getElem? (i := 152) rfl)) rfl), sd_memS (y := mMO_gather.1) 66 rfl⟩
theorem mMO_givesBeta_v : Cond.instanceMethod mMO_givesBeta.1 ∈ sd_tbl ∧ Cond.selects "SequentDeskModel" mMO_givesBeta.1 mMO_givesBeta.1 ∈ sd_tbl := ⟨(sd_memT (sd_in5 (List.mem_of_getElem? (i := 188) rfl)) rfl), sd_memS (y := mMO_givesBeta.1) 71 rfl⟩
theorem mMO_goal_v : Cond.instanceMethod mMO_goal.1 ∈ sd_tbl ∧ Cond.selects "SequentDeskModel" mMO_goal.1 mMO_goal.1 ∈ sd_tbl := ⟨(sd_memT (sd_in5 (List.mem_of_getElem? (i := 171) rfl)) rfl), (sd_memT (sd_in5 (List.mem_of_getElem? (i := 172) rfl)) rfl)⟩
theorem mMO_hold_v : Cond.instanceMethod mMO_hold.1 ∈ sd_tbl ∧ Cond.selects "SequentDeskModel" mMO_hold.1 mMO_hold.1 ∈ sd_tbl := ⟨(sd_memT (sd_in5 (List.mem_of_getElem? (i := 129) rfl)) rfl), sd_memS (y := mMO_hold.1) 61 rfl⟩
theorem mMO_hypothesis_v : Cond.instanceMethod mMO_hypothesis.1 ∈ sd_tbl ∧ Cond.selects "SequentDeskModel" mMO_hypothesis.1 mMO_hypothesis.1 ∈ sd_tbl := ⟨(sd_memT (sd_in5 (List.mem_of_getElem? (i := 167) rfl)) rfl), (sd_memT (sd_in5 (List.mem_of_getElem? (i := 168) rfl)) rfl)⟩
theorem mMO_isBeta_v : Cond.instanceMethod mMO_isBeta.1 ∈ sd_tbl ∧ Cond.selects "SequentDeskModel" mMO_isBeta.1 mMO_isBeta.1 ∈ sd_tbl := ⟨(sd_memT (sd_in5 (List.mem_of_getElem? (i := 113) rfl)) rfl), sd_memS (y := mMO_isBeta.1) 57 rfl⟩
theorem mMO_isEqual_v : Cond.instanceMethod mMO_isEqual.1 ∈ sd_tbl ∧ Cond.selects "SequentDeskModel" mMO_isEqual.1 mMO_isEqual.1 ∈ sd_tbl := ⟨(sd_memT (sd_in5 (List.mem_of_getElem? (i := 99) rfl)) rfl), sd_memS (y := mMO_isEqual.1) 55 rfl⟩
theorem mMO_isShape_v : Cond.instanceMethod mMO_isShape.1 ∈ sd_tbl ∧ Cond.selects "SequentDeskModel" mMO_isShape.1 mMO_isShape.1 ∈ sd_tbl := ⟨(sd_memT (sd_in4 (List.mem_of_getElem? (i := 232) rfl)) rfl), sd_memS (y := mMO_isShape.1) 32 rfl⟩
theorem mMO_isTerm_v : Cond.instanceMethod mMO_isTerm.1 ∈ sd_tbl ∧ Cond.selects "SequentDeskModel" mMO_isTerm.1 mMO_isTerm.1 ∈ sd_tbl := ⟨(sd_memT (sd_in5 (List.mem_of_getElem? (i := 71) rfl)) rfl), sd_memS (y := mMO_isTerm.1) 50 rfl⟩
theorem mMO_isTheorem_v : Cond.instanceMethod mMO_isTheorem.1 ∈ sd_tbl ∧ Cond.selects "SequentDeskModel" mMO_isTheorem.1 mMO_isTheorem.1 ∈ sd_tbl := ⟨(sd_memT (sd_in5 (List.mem_of_getElem? (i := 91) rfl)) rfl), sd_memS (y := mMO_isTheorem.1) 53 rfl⟩
theorem mMO_isThere_v : Cond.instanceMethod mMO_isThere.1 ∈ sd_tbl ∧ Cond.selects "SequentDeskModel" mMO_isThere.1 mMO_isThere.1 ∈ sd_tbl := ⟨(sd_memT (sd_in5 (List.mem_of_getElem? (i := 87) rfl)) rfl), sd_memS (y := mMO_isThere.1) 52 rfl⟩
theorem mMO_isTyped_v : Cond.instanceMethod mMO_isTyped.1 ∈ sd_tbl ∧ Cond.selects "SequentDeskModel" mMO_isTyped.1 mMO_isTyped.1 ∈ sd_tbl := ⟨(sd_memT (sd_in5 (List.mem_of_getElem? (i := 15) rfl)) rfl), sd_memS (y := mMO_isTyped.1) 37 rfl⟩
theorem mMO_keep_v : Cond.instanceMethod mMO_keep.1 ∈ sd_tbl ∧ Cond.selects "SequentDeskModel" mMO_keep.1 mMO_keep.1 ∈ sd_tbl := ⟨(sd_memT (sd_in5 (List.mem_of_getElem? (i := 51) rfl)) rfl), sd_memS (y := mMO_keep.1) 46 rfl⟩
theorem mMO_leave_v : Cond.instanceMethod mMO_leave.1 ∈ sd_tbl ∧ Cond.selects "SequentDeskModel" mMO_leave.1 mMO_leave.1 ∈ sd_tbl := ⟨(sd_memT (sd_in5 (List.mem_of_getElem? (i := 192) rfl)) rfl), sd_memS (y := mMO_leave.1) 72 rfl⟩
theorem mMO_measure_v : Cond.instanceMethod mMO_measure.1 ∈ sd_tbl ∧ Cond.selects "SequentDeskModel" mMO_measure.1 mMO_measure.1 ∈ sd_tbl := ⟨(sd_memT (sd_in5 (List.mem_of_getElem? (i := 47) rfl)) rfl), sd_memS (y := mMO_measure.1) 45 rfl⟩
theorem mMO_nameNode_v : Cond.instanceMethod mMO_nameNode.1 ∈ sd_tbl ∧ Cond.selects "SequentDeskModel" mMO_nameNode.1 mMO_nameNode.1 ∈ sd_tbl := ⟨(sd_memT (sd_in5 (List.mem_of_getElem? (i := 27) rfl)) rfl), sd_memS (y := mMO_nameNode.1) 40 rfl⟩
theorem mMO_names_v : Cond.instanceMethod mMO_names.1 ∈ sd_tbl ∧ Cond.selects "SequentDeskModel" mMO_names.1 mMO_names.1 ∈ sd_tbl := ⟨(sd_memT (sd_in5 (List.mem_of_getElem? (i := 109) rfl)) rfl), sd_memS (y := mMO_names.1) 56 rfl⟩
theorem mMO_nodeOf_v : Cond.instanceMethod mMO_nodeOf.1 ∈ sd_tbl ∧ Cond.selects "SequentDeskModel" mMO_nodeOf.1 mMO_nodeOf.1 ∈ sd_tbl := ⟨(sd_memT (sd_in5 (List.mem_of_getElem? (i := 31) rfl)) rfl), sd_memS (y := mMO_nodeOf.1) 41 rfl⟩
theorem mMO_note_v : Cond.instanceMethod mMO_note.1 ∈ sd_tbl ∧ Cond.selects "SequentDeskModel" mMO_note.1 mMO_note.1 ∈ sd_tbl := ⟨(sd_memT (sd_in5 (List.mem_of_getElem? (i := 156) rfl)) rfl), sd_memS (y := mMO_note.1) 67 rfl⟩
theorem mMO_open2_v : Cond.instanceMethod mMO_open2.1 ∈ sd_tbl ∧ Cond.selects "SequentDeskModel" mMO_open2.1 mMO_open2.1 ∈ sd_tbl := ⟨(sd_memT (sd_in5 (List.mem_of_getElem? (i := 208) rfl)) rfl), (sd_memT (sd_in5 (List.mem_of_getElem? (i := 209) rfl)) rfl)⟩
theorem mMO_open5_v : Cond.instanceMethod mMO_open5.1 ∈ sd_tbl ∧ Cond.selects "SequentDeskModel" mMO_open5.1 mMO_open5.1 ∈ sd_tbl := ⟨(sd_memT (sd_in5 (List.mem_of_getElem? (i := 148) rfl)) rfl), sd_memS (y := mMO_open5.1) 65 rfl⟩
theorem mMO_put_v : Cond.instanceMethod mMO_put.1 ∈ sd_tbl ∧ Cond.selects "SequentDeskModel" mMO_put.1 mMO_put.1 ∈ sd_tbl := ⟨(sd_memT (sd_in5 (List.mem_of_getElem? (i := 136) rfl)) rfl), sd_memS (y := mMO_put.1) 62 rfl⟩
theorem mMO_read_v : Cond.instanceMethod mMO_read.1 ∈ sd_tbl ∧ Cond.selects "SequentDeskModel" mMO_read.1 mMO_read.1 ∈ sd_tbl := ⟨(sd_memT (sd_in4 (List.mem_of_getElem? (i := 227) rfl)) rfl), (sd_memT (sd_in4 (List.mem_of_getElem? (i := 228) rfl)) rfl)⟩
theorem mMO_repeat_v : Cond.instanceMethod mMO_repeat.1 ∈ sd_tbl ∧ Cond.selects "SequentDeskModel" mMO_repeat.1 mMO_repeat.1 ∈ sd_tbl := ⟨(sd_memT (sd_in5 (List.mem_of_getElem? (i := 203) rfl)) rfl), (sd_memT (sd_in5 (List.mem_of_getElem? (i := 204) rfl)) rfl)⟩
theorem mMO_rests_v : Cond.instanceMethod mMO_rests.1 ∈ sd_tbl ∧ Cond.selects "SequentDeskModel" mMO_rests.1 mMO_rests.1 ∈ sd_tbl := ⟨(sd_memT (sd_in5 (List.mem_of_getElem? (i := 164) rfl)) rfl), sd_memS (y := mMO_rests.1) 68 rfl⟩
theorem mMO_root_v : Cond.instanceMethod mMO_root.1 ∈ sd_tbl ∧ Cond.selects "SequentDeskModel" mMO_root.1 mMO_root.1 ∈ sd_tbl := ⟨(sd_memT (sd_in5 (List.mem_of_getElem? (i := 39) rfl)) rfl), sd_memS (y := mMO_root.1) 43 rfl⟩
theorem mMO_rule_v : Cond.instanceMethod mMO_rule.1 ∈ sd_tbl ∧ Cond.selects "SequentDeskModel" mMO_rule.1 mMO_rule.1 ∈ sd_tbl := ⟨(sd_memT (sd_in5 (List.mem_of_getElem? (i := 82) rfl)) rfl), (sd_memT (sd_in5 (List.mem_of_getElem? (i := 83) rfl)) rfl)⟩
theorem mMO_same_v : Cond.instanceMethod mMO_same.1 ∈ sd_tbl ∧ Cond.selects "SequentDeskModel" mMO_same.1 mMO_same.1 ∈ sd_tbl := ⟨(sd_memT (sd_in5 (List.mem_of_getElem? (i := 59) rfl)) rfl), sd_memS (y := mMO_same.1) 48 rfl⟩
theorem mMO_spell_v : Cond.instanceMethod mMO_spell.1 ∈ sd_tbl ∧ Cond.selects "SequentDeskModel" mMO_spell.1 mMO_spell.1 ∈ sd_tbl := ⟨(sd_memT (sd_in4 (List.mem_of_getElem? (i := 236) rfl)) rfl), sd_memS (y := mMO_spell.1) 33 rfl⟩
theorem mMO_suits_v : Cond.instanceMethod mMO_suits.1 ∈ sd_tbl ∧ Cond.selects "SequentDeskModel" mMO_suits.1 mMO_suits.1 ∈ sd_tbl := ⟨(sd_memT (sd_in5 (List.mem_of_getElem? (i := 180) rfl)) rfl), sd_memS (y := mMO_suits.1) 69 rfl⟩
theorem mMO_symbol_v : Cond.instanceMethod mMO_symbol.1 ∈ sd_tbl ∧ Cond.selects "SequentDeskModel" mMO_symbol.1 mMO_symbol.1 ∈ sd_tbl := ⟨(sd_memT (sd_in5 (List.mem_of_getElem? (i := 78) rfl)) rfl), (sd_memT (sd_in5 (List.mem_of_getElem? (i := 79) rfl)) rfl)⟩
theorem mMO_symbolAt_v : Cond.instanceMethod mMO_symbolAt.1 ∈ sd_tbl ∧ Cond.selects "SequentDeskModel" mMO_symbolAt.1 mMO_symbolAt.1 ∈ sd_tbl := ⟨(sd_memT (sd_in5 (List.mem_of_getElem? (i := 23) rfl)) rfl), sd_memS (y := mMO_symbolAt.1) 39 rfl⟩
theorem mMO_tactic_v : Cond.instanceMethod mMO_tactic.1 ∈ sd_tbl ∧ Cond.selects "SequentDeskModel" mMO_tactic.1 mMO_tactic.1 ∈ sd_tbl := ⟨(sd_memT (sd_in5 (List.mem_of_getElem? (i := 175) rfl)) rfl), (sd_memT (sd_in5 (List.mem_of_getElem? (i := 176) rfl)) rfl)⟩
theorem mMO_term_v : Cond.instanceMethod mMO_term.1 ∈ sd_tbl ∧ Cond.selects "SequentDeskModel" mMO_term.1 mMO_term.1 ∈ sd_tbl := ⟨(sd_memT (sd_in5 (List.mem_of_getElem? (i := 66) rfl)) rfl), (sd_memT (sd_in5 (List.mem_of_getElem? (i := 67) rfl)) rfl)⟩
theorem mMO_theorem_v : Cond.instanceMethod mMO_theorem.1 ∈ sd_tbl ∧ Cond.selects "SequentDeskModel" mMO_theorem.1 mMO_theorem.1 ∈ sd_tbl := ⟨(sd_memT (sd_in5 (List.mem_of_getElem? (i := 159) rfl)) rfl), (sd_memT (sd_in5 (List.mem_of_getElem? (i := 160) rfl)) rfl)⟩
theorem mMO_token_v : Cond.instanceMethod mMO_token.1 ∈ sd_tbl ∧ Cond.selects "SequentDeskModel" mMO_token.1 mMO_token.1 ∈ sd_tbl := ⟨(sd_memT (sd_in4 (List.mem_of_getElem? (i := 219) rfl)) rfl), (sd_memT (sd_in4 (List.mem_of_getElem? (i := 220) rfl)) rfl)⟩
theorem mMO_typeAt_v : Cond.instanceMethod mMO_typeAt.1 ∈ sd_tbl ∧ Cond.selects "SequentDeskModel" mMO_typeAt.1 mMO_typeAt.1 ∈ sd_tbl := ⟨(sd_memT (sd_in5 (List.mem_of_getElem? (i := 63) rfl)) rfl), sd_memS (y := mMO_typeAt.1) 49 rfl⟩
theorem mMO_typeOf_v : Cond.instanceMethod mMO_typeOf.1 ∈ sd_tbl ∧ Cond.selects "SequentDeskModel" mMO_typeOf.1 mMO_typeOf.1 ∈ sd_tbl := ⟨(sd_memT (sd_in5 (List.mem_of_getElem? (i := 75) rfl)) rfl), sd_memS (y := mMO_typeOf.1) 51 rfl⟩
theorem mMO_undo_v : Cond.instanceMethod mMO_undo.1 ∈ sd_tbl ∧ Cond.selects "SequentDeskModel" mMO_undo.1 mMO_undo.1 ∈ sd_tbl := ⟨(sd_memT (sd_in5 (List.mem_of_getElem? (i := 199) rfl)) rfl), (sd_memT (sd_in5 (List.mem_of_getElem? (i := 200) rfl)) rfl)⟩
theorem mMO_unify_v : Cond.instanceMethod mMO_unify.1 ∈ sd_tbl ∧ Cond.selects "SequentDeskModel" mMO_unify.1 mMO_unify.1 ∈ sd_tbl := ⟨(sd_memT (sd_in5 (List.mem_of_getElem? (i := 35) rfl)) rfl), sd_memS (y := mMO_unify.1) 42 rfl⟩
theorem mDK_isName_s : Cond.static mDK_isName.1 ∈ sd_tbl := (sd_memT (sd_in2 (List.mem_of_getElem? (i := 80) rfl)) rfl)
theorem mDR_symbolOf_s : Cond.static mDR_symbolOf.1 ∈ sd_tbl := (sd_memT (sd_in2 (List.mem_of_getElem? (i := 99) rfl)) rfl)
theorem mGS_canSplit_s : Cond.static mGS_canSplit.1 ∈ sd_tbl := (sd_memT (sd_in3 (List.mem_of_getElem? (i := 200) rfl)) rfl)
theorem mGS_isExact_s : Cond.static mGS_isExact.1 ∈ sd_tbl := (sd_memT (sd_in3 (List.mem_of_getElem? (i := 218) rfl)) rfl)
theorem mIN_variableOf_s : Cond.static mIN_variableOf.1 ∈ sd_tbl := (sd_memT (sd_in2 (List.mem_of_getElem? (i := 147) rfl)) rfl)
theorem mRU_canChain_s : Cond.static mRU_canChain.1 ∈ sd_tbl := (sd_memT (sd_in3 (List.mem_of_getElem? (i := 19) rfl)) rfl)
theorem mRU_canCombine_s : Cond.static mRU_canCombine.1 ∈ sd_tbl := (sd_memT (sd_in3 (List.mem_of_getElem? (i := 31) rfl)) rfl)
theorem mRU_canPass_s : Cond.static mRU_canPass.1 ∈ sd_tbl := (sd_memT (sd_in3 (List.mem_of_getElem? (i := 51) rfl)) rfl)
theorem mRU_writeCombined_s : Cond.static mRU_writeCombined.1 ∈ sd_tbl := (sd_memT (sd_in3 (List.mem_of_getElem? (i := 100) rfl)) rfl)
theorem mRU_writeReduced_s : Cond.static mRU_writeReduced.1 ∈ sd_tbl := (sd_memT (sd_in3 (List.mem_of_getElem? (i := 119) rfl)) rfl)
theorem mTM_alike_s : Cond.static mTM_alike.1 ∈ sd_tbl := (sd_memT (sd_in2 (List.mem_of_getElem? (i := 203) rfl)) rfl)
theorem mTM_partsOf_s : Cond.static mTM_partsOf.1 ∈ sd_tbl := (sd_memT (sd_in2 (List.mem_of_getElem? (i := 105) rfl)) rfl)
theorem mTY_digits_s : Cond.static mTY_digits.1 ∈ sd_tbl := (sd_memT (sd_in2 (List.mem_of_getElem? (i := 67) rfl)) rfl)
theorem mTY_from_s : Cond.static mTY_from.1 ∈ sd_tbl := (sd_memT (sd_in2 (List.mem_of_getElem? (i := 168) rfl)) rfl)
theorem mTY_isFunction_s : Cond.static mTY_isFunction.1 ∈ sd_tbl := (sd_memT (sd_in3 (List.mem_of_getElem? (i := 34) rfl)) rfl)
theorem mTY_isType_s : Cond.static mTY_isType.1 ∈ sd_tbl := (sd_memT (sd_in2 (List.mem_of_getElem? (i := 64) rfl)) rfl)
theorem mTY_join_s : Cond.static mTY_join.1 ∈ sd_tbl := (sd_memT (sd_in2 (List.mem_of_getElem? (i := 73) rfl)) rfl)
theorem mTY_lastDigits_s : Cond.static mTY_lastDigits.1 ∈ sd_tbl := (sd_memT (sd_in2 (List.mem_of_getElem? (i := 171) rfl)) rfl)
theorem mTY_taken_s : Cond.static mTY_taken.1 ∈ sd_tbl := (sd_memT (sd_in2 (List.mem_of_getElem? (i := 70) rfl)) rfl)
theorem mTY_to_s : Cond.static mTY_to.1 ∈ sd_tbl := (sd_memT (sd_in2 (List.mem_of_getElem? (i := 174) rfl)) rfl)
theorem mMO_arity_s : Cond.static mMO_arity.1 ∈ sd_tbl := (sd_memT (sd_in5 (List.mem_of_getElem? (i := 11) rfl)) rfl)
theorem mMO_extent_s : Cond.static mMO_extent.1 ∈ sd_tbl := (sd_memT (sd_in4 (List.mem_of_getElem? (i := 209) rfl)) rfl)
theorem mMO_from_s : Cond.static mMO_from.1 ∈ sd_tbl := (sd_memT (sd_in5 (List.mem_of_getElem? (i := 105) rfl)) rfl)
theorem mMO_in_s : Cond.static mMO_in.1 ∈ sd_tbl := (sd_memT (sd_in4 (List.mem_of_getElem? (i := 203) rfl)) rfl)
theorem mMO_isFunction_s : Cond.static mMO_isFunction.1 ∈ sd_tbl := (sd_memT (sd_in5 (List.mem_of_getElem? (i := 102) rfl)) rfl)
theorem mMO_isType_s : Cond.static mMO_isType.1 ∈ sd_tbl := (sd_memT (sd_in4 (List.mem_of_getElem? (i := 199) rfl)) rfl)
theorem mMO_join_s : Cond.static mMO_join.1 ∈ sd_tbl := (sd_memT (sd_in4 (List.mem_of_getElem? (i := 212) rfl)) rfl)
theorem mMO_size_s : Cond.static mMO_size.1 ∈ sd_tbl := (sd_memT (sd_in4 (List.mem_of_getElem? (i := 206) rfl)) rfl)
theorem mMO_to_s : Cond.static mMO_to.1 ∈ sd_tbl := (sd_memT (sd_in5 (List.mem_of_getElem? (i := 132) rfl)) rfl)
theorem mLO_bitCount_s : Cond.static mLO_bitCount.1 ∈ sd_tbl := (sd_memT (sd_in3 (List.mem_of_getElem? (i := 149) rfl)) rfl)
theorem mMA_max_s : Cond.static mMA_max.1 ∈ sd_tbl := (sd_memT (sd_in2 (List.mem_of_getElem? (i := 226) rfl)) rfl)
theorem mMA_min_s : Cond.static mMA_min.1 ∈ sd_tbl := (sd_memT (sd_in2 (List.mem_of_getElem? (i := 102) rfl)) rfl)
