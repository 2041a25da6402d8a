theorem ms_0 : (.selects "java/lang/Throwable" ⟨"java/lang/Throwable", "fillInStackTrace", "(I)Ljava/lang/Throwable;"⟩ ⟨"java/lang/Throwable", "fillInStackTrace", "(I)Ljava/lang/Throwable;"⟩ : Cond) ∈ tB := tB_of (List.mem_append_left _ (List.mem_of_getElem? (i := 0) (by decide +kernel))) rfl
theorem ms_1 : (.selects "CompiledProgramModel" ⟨"CompiledProgramModel", "wrongPlace", "(I)I"⟩ ⟨"CompiledProgramModel", "wrongPlace", "(I)I"⟩ : Cond) ∈ tB := tB_of (List.mem_append_left _ (List.mem_of_getElem? (i := 1) (by decide +kernel))) rfl
theorem ms_2 : (.selects "CompiledProgramModel" ⟨"CompiledProgramModel", "isInstruction", "([III)Z"⟩ ⟨"CompiledProgramModel", "isInstruction", "([III)Z"⟩ : Cond) ∈ tB := tB_of (List.mem_append_left _ (List.mem_of_getElem? (i := 2) (by decide +kernel))) rfl
theorem ms_3 : (.selects "CompiledProgramModel" ⟨"CompiledProgramModel", "take", "([II)V"⟩ ⟨"CompiledProgramModel", "take", "([II)V"⟩ : Cond) ∈ tB := tB_of (List.mem_append_left _ (List.mem_of_getElem? (i := 3) (by decide +kernel))) rfl
theorem ms_4 : (.selects "CompiledProgramModel" ⟨"CompiledProgramModel", "kind", "()I"⟩ ⟨"CompiledProgramModel", "kind", "()I"⟩ : Cond) ∈ tB := tB_of (List.mem_append_left _ (List.mem_of_getElem? (i := 4) (by decide +kernel))) rfl
theorem ms_5 : (.selects "CompiledProgramModel" ⟨"CompiledProgramModel", "isArithmetic", "()Z"⟩ ⟨"CompiledProgramModel", "isArithmetic", "()Z"⟩ : Cond) ∈ tB := tB_of (List.mem_append_left _ (List.mem_of_getElem? (i := 5) (by decide +kernel))) rfl
theorem ms_6 : (.selects "CompiledProgramModel" ⟨"CompiledProgramModel", "n", "()I"⟩ ⟨"CompiledProgramModel", "n", "()I"⟩ : Cond) ∈ tB := tB_of (List.mem_append_left _ (List.mem_of_getElem? (i := 6) (by decide +kernel))) rfl
theorem ms_7 : (.selects "CompiledProgramModel" ⟨"CompiledProgramModel", "bit3", "()Z"⟩ ⟨"CompiledProgramModel", "bit3", "()Z"⟩ : Cond) ∈ tB := tB_of (List.mem_append_left _ (List.mem_of_getElem? (i := 7) (by decide +kernel))) rfl
theorem ms_8 : (.selects "CompiledProgramModel" ⟨"CompiledProgramModel", "hasSource", "()Z"⟩ ⟨"CompiledProgramModel", "hasSource", "()Z"⟩ : Cond) ∈ tB := tB_of (List.mem_append_left _ (List.mem_of_getElem? (i := 8) (by decide +kernel))) rfl
theorem ms_9 : (.selects "CompiledProgramModel" ⟨"CompiledProgramModel", "isJump", "()Z"⟩ ⟨"CompiledProgramModel", "isJump", "()Z"⟩ : Cond) ∈ tB := tB_of (List.mem_append_left _ (List.mem_of_getElem? (i := 9) (by decide +kernel))) rfl
theorem ms_10 : (.selects "CompiledProgramModel" ⟨"CompiledProgramModel", "mode", "()I"⟩ ⟨"CompiledProgramModel", "mode", "()I"⟩ : Cond) ∈ tB := tB_of (List.mem_append_left _ (List.mem_of_getElem? (i := 10) (by decide +kernel))) rfl
theorem ms_11 : (.selects "CompiledProgramModel" ⟨"CompiledProgramModel", "size", "()I"⟩ ⟨"CompiledProgramModel", "size", "()I"⟩ : Cond) ∈ tB := tB_of (List.mem_append_left _ (List.mem_of_getElem? (i := 11) (by decide +kernel))) rfl
theorem ms_12 : (.selects "CompiledProgramModel" ⟨"CompiledProgramModel", "isAtomic", "()Z"⟩ ⟨"CompiledProgramModel", "isAtomic", "()Z"⟩ : Cond) ∈ tB := tB_of (List.mem_append_left _ (List.mem_of_getElem? (i := 12) (by decide +kernel))) rfl
theorem ms_13 : (.selects "CompiledProgramModel" ⟨"CompiledProgramModel", "isWide", "()Z"⟩ ⟨"CompiledProgramModel", "isWide", "()Z"⟩ : Cond) ∈ tB := tB_of (List.mem_append_left _ (List.mem_of_getElem? (i := 13) (by decide +kernel))) rfl
theorem ms_14 : (.selects "CompiledProgramModel" ⟨"CompiledProgramModel", "wrongWay", "(I)I"⟩ ⟨"CompiledProgramModel", "wrongWay", "(I)I"⟩ : Cond) ∈ tB := tB_of (List.mem_append_left _ (List.mem_of_getElem? (i := 14) (by decide +kernel))) rfl
theorem ms_15 : (.selects "CompiledProgramModel" ⟨"CompiledProgramModel", "isGoal", "(JI)Z"⟩ ⟨"CompiledProgramModel", "isGoal", "(JI)Z"⟩ : Cond) ∈ tB := tB_of (List.mem_append_left _ (List.mem_of_getElem? (i := 15) (by decide +kernel))) rfl
theorem ms_16 : (.selects "CompiledProgramModel" ⟨"CompiledProgramModel", "store", "(JIJ)V"⟩ ⟨"CompiledProgramModel", "store", "(JIJ)V"⟩ : Cond) ∈ tB := tB_of (List.mem_append_left _ (List.mem_of_getElem? (i := 16) (by decide +kernel))) rfl
theorem ms_17 : (.selects "CompiledProgramModel" ⟨"CompiledProgramModel", "load", "(JI)J"⟩ ⟨"CompiledProgramModel", "load", "(JI)J"⟩ : Cond) ∈ tB := tB_of (List.mem_append_left _ (List.mem_of_getElem? (i := 17) (by decide +kernel))) rfl
theorem ms_18 : (.selects "CompiledProgramModel" ⟨"CompiledProgramModel", "does", "(I)Z"⟩ ⟨"CompiledProgramModel", "does", "(I)Z"⟩ : Cond) ∈ tB := tB_of (List.mem_append_left _ (List.mem_of_getElem? (i := 18) (by decide +kernel))) rfl
theorem ms_19 : (.selects "CompiledProgramModel" ⟨"CompiledProgramModel", "arithmetic", "()V"⟩ ⟨"CompiledProgramModel", "arithmetic", "()V"⟩ : Cond) ∈ tB := tB_of (List.mem_append_left _ (List.mem_of_getElem? (i := 19) (by decide +kernel))) rfl
theorem ms_20 : (.selects "CompiledProgramModel" ⟨"CompiledProgramModel", "reckoned", "(JJI)J"⟩ ⟨"CompiledProgramModel", "reckoned", "(JJI)J"⟩ : Cond) ∈ tB := tB_of (List.mem_append_left _ (List.mem_of_getElem? (i := 20) (by decide +kernel))) rfl
theorem ms_21 : (.selects "CompiledProgramModel" ⟨"CompiledProgramModel", "jump", "(I)V"⟩ ⟨"CompiledProgramModel", "jump", "(I)V"⟩ : Cond) ∈ tB := tB_of (List.mem_append_left _ (List.mem_of_getElem? (i := 21) (by decide +kernel))) rfl
theorem ms_22 : (.selects "CompiledProgramModel" ⟨"CompiledProgramModel", "call", "()V"⟩ ⟨"CompiledProgramModel", "call", "()V"⟩ : Cond) ∈ tB := tB_of (List.mem_append_left _ (List.mem_of_getElem? (i := 22) (by decide +kernel))) rfl
theorem ms_23 : (.selects "CompiledProgramModel" ⟨"CompiledProgramModel", "isSo", "(JJ)Z"⟩ ⟨"CompiledProgramModel", "isSo", "(JJ)Z"⟩ : Cond) ∈ tB := tB_of (List.mem_append_left _ (List.mem_of_getElem? (i := 23) (by decide +kernel))) rfl
theorem ms_24 : (.selects "CompiledProgramModel" ⟨"CompiledProgramModel", "access", "()Z"⟩ ⟨"CompiledProgramModel", "access", "()Z"⟩ : Cond) ∈ tB := tB_of (List.mem_append_left _ (List.mem_of_getElem? (i := 24) (by decide +kernel))) rfl
theorem ms_25 : (.selects "CompiledProgramModel" ⟨"CompiledProgramModel", "atomic", "(JI)Z"⟩ ⟨"CompiledProgramModel", "atomic", "(JI)Z"⟩ : Cond) ∈ tB := tB_of (List.mem_append_left _ (List.mem_of_getElem? (i := 25) (by decide +kernel))) rfl
theorem mw_0 : (.initialized "CompiledProgramLaw" : Cond) ∈ tB := tB_of (List.mem_append_right _ (List.mem_of_getElem? (i := 0) (by decide +kernel))) rfl
theorem mw_1 : (.initialized "CompiledProgram" : Cond) ∈ tB := tB_of (List.mem_append_right _ (List.mem_of_getElem? (i := 1) (by decide +kernel))) rfl
theorem mw_2 : (.initialized "CompiledProgram$Tape" : Cond) ∈ tB := tB_of (List.mem_append_right _ (List.mem_of_getElem? (i := 2) (by decide +kernel))) rfl
theorem mw_3 : (.initialized "CompiledProgram$Program" : Cond) ∈ tB := tB_of (List.mem_append_right _ (List.mem_of_getElem? (i := 3) (by decide +kernel))) rfl
theorem mw_4 : (.initialized "CompiledProgram$Machine" : Cond) ∈ tB := tB_of (List.mem_append_right _ (List.mem_of_getElem? (i := 4) (by decide +kernel))) rfl
theorem mw_5 : (.initialized "CompiledProgram$Memory" : Cond) ∈ tB := tB_of (List.mem_append_right _ (List.mem_of_getElem? (i := 5) (by decide +kernel))) rfl
theorem mw_6 : (.initialized "CompiledProgramModel" : Cond) ∈ tB := tB_of (List.mem_append_right _ (List.mem_of_getElem? (i := 6) (by decide +kernel))) rfl
theorem mw_7 : (.initialized "java/lang/Throwable" : Cond) ∈ tB := tB_of (List.mem_append_right _ (List.mem_of_getElem? (i := 7) (by decide +kernel))) rfl
theorem mw_8 : (.initialized "java/lang/Exception" : Cond) ∈ tB := tB_of (List.mem_append_right _ (List.mem_of_getElem? (i := 8) (by decide +kernel))) rfl
theorem mw_9 : (.initialized "java/lang/RuntimeException" : Cond) ∈ tB := tB_of (List.mem_append_right _ (List.mem_of_getElem? (i := 9) (by decide +kernel))) rfl
theorem mw_10 : (.initialized "java/lang/IllegalStateException" : Cond) ∈ tB := tB_of (List.mem_append_right _ (List.mem_of_getElem? (i := 10) (by decide +kernel))) rfl
theorem mw_11 : (.initialized "java/lang/Math" : Cond) ∈ tB := tB_of (List.mem_append_right _ (List.mem_of_getElem? (i := 11) (by decide +kernel))) rfl
theorem mw_12 : (.initialized "java/util/Arrays" : Cond) ∈ tB := tB_of (List.mem_append_right _ (List.mem_of_getElem? (i := 12) (by decide +kernel))) rfl
theorem mw_13 : (.initialized "java/lang/System" : Cond) ∈ tB := tB_of (List.mem_append_right _ (List.mem_of_getElem? (i := 13) (by decide +kernel))) rfl
theorem mw_14 : (.initialized "java/lang/IllegalArgumentException" : Cond) ∈ tB := tB_of (List.mem_append_right _ (List.mem_of_getElem? (i := 14) (by decide +kernel))) rfl
theorem mw_15 : (.initialized "CompiledProgram$Form" : Cond) ∈ tB := tB_of (List.mem_append_right _ (List.mem_of_getElem? (i := 15) (by decide +kernel))) rfl
theorem mw_16 : (.initialized "CompiledProgram$Fields" : Cond) ∈ tB := tB_of (List.mem_append_right _ (List.mem_of_getElem? (i := 16) (by decide +kernel))) rfl
theorem mw_17 : (.initialized "CompiledProgram$Exchange" : Cond) ∈ tB := tB_of (List.mem_append_right _ (List.mem_of_getElem? (i := 17) (by decide +kernel))) rfl
theorem mw_18 : (.initialized "java/lang/IndexOutOfBoundsException" : Cond) ∈ tB := tB_of (List.mem_append_right _ (List.mem_of_getElem? (i := 18) (by decide +kernel))) rfl
theorem mw_19 : (.initialized "CompiledProgram$Arithmetic" : Cond) ∈ tB := tB_of (List.mem_append_right _ (List.mem_of_getElem? (i := 19) (by decide +kernel))) rfl
theorem mw_20 : (.initialized "java/lang/Long" : Cond) ∈ tB := tB_of (List.mem_append_right _ (List.mem_of_getElem? (i := 20) (by decide +kernel))) rfl
theorem mw_21 : (.classLink "CompiledProgramLaw" 8 "CompiledProgram" : Cond) ∈ tB := tB_of (List.mem_append_right _ (List.mem_of_getElem? (i := 21) (by decide +kernel))) rfl
theorem mw_22 : (.instantiable "CompiledProgram" 5 : Cond) ∈ tB := tB_of (List.mem_append_right _ (List.mem_of_getElem? (i := 22) (by decide +kernel))) rfl
theorem mw_23 : (.methodLink "CompiledProgramLaw" 43 ⟨"CompiledProgram", "<init>", "()V"⟩ : Cond) ∈ tB := tB_of (List.mem_append_right _ (List.mem_of_getElem? (i := 23) (by decide +kernel))) rfl
theorem mw_24 : (.instanceMethod ⟨"CompiledProgram", "<init>", "()V"⟩ : Cond) ∈ tB := tB_of (List.mem_append_right _ (List.mem_of_getElem? (i := 24) (by decide +kernel))) rfl
set_option maxRecDepth 100000 in
theorem mw_25 : (.code ⟨"CompiledProgram", "<init>", "()V"⟩ prog_1_method_1_code 1 (none : Option FieldType) : Cond) ∈ tB := tB_of (List.mem_append_right _ (List.mem_of_getElem? (i := 25) rfl)) rfl
theorem mw_26 : (.methodLink "CompiledProgram" 1 ⟨"java/lang/Object", "<init>", "()V"⟩ : Cond) ∈ tB := tB_of (List.mem_append_right _ (List.mem_of_getElem? (i := 26) (by decide +kernel))) rfl
theorem mw_27 : (.instanceMethod ⟨"java/lang/Object", "<init>", "()V"⟩ : Cond) ∈ tB := tB_of (List.mem_append_right _ (List.mem_of_getElem? (i := 27) (by decide +kernel))) rfl
set_option maxRecDepth 100000 in
theorem mw_28 : (.code ⟨"java/lang/Object", "<init>", "()V"⟩ object_method_1_code 1 (none : Option FieldType) : Cond) ∈ tB := tB_of (List.mem_append_right _ (List.mem_of_getElem? (i := 28) rfl)) rfl
theorem mw_29 : (.classLink "CompiledProgram" 7 "CompiledProgram$Tape" : Cond) ∈ tB := tB_of (List.mem_append_right _ (List.mem_of_getElem? (i := 29) (by decide +kernel))) rfl
theorem mw_30 : (.instantiable "CompiledProgram$Tape" 2 : Cond) ∈ tB := tB_of (List.mem_append_right _ (List.mem_of_getElem? (i := 30) (by decide +kernel))) rfl
theorem mw_32 : (.instanceMethod ⟨"CompiledProgram$Tape", "<init>", "()V"⟩ : Cond) ∈ tB := tB_of (List.mem_append_right _ (List.mem_of_getElem? (i := 32) (by decide +kernel))) rfl
set_option maxRecDepth 100000 in
theorem mw_33 : (.code ⟨"CompiledProgram$Tape", "<init>", "()V"⟩ prog_9_method_1_code 1 (none : Option FieldType) : Cond) ∈ tB := tB_of (List.mem_append_right _ (List.mem_of_getElem? (i := 33) rfl)) rfl
theorem mw_34 : (.methodLink "CompiledProgram$Tape" 1 ⟨"java/lang/Object", "<init>", "()V"⟩ : Cond) ∈ tB := tB_of (List.mem_append_right _ (List.mem_of_getElem? (i := 34) (by decide +kernel))) rfl
theorem mw_35 : (.fieldLink "CompiledProgram$Tape" 7 "CompiledProgram$Tape" "bytes" "[B" : Cond) ∈ tB := tB_of (List.mem_append_right _ (List.mem_of_getElem? (i := 35) (by decide +kernel))) rfl
theorem mw_36 : (.fieldLink "CompiledProgram$Tape" 13 "CompiledProgram$Tape" "length" "I" : Cond) ∈ tB := tB_of (List.mem_append_right _ (List.mem_of_getElem? (i := 36) (by decide +kernel))) rfl
theorem mw_37 : (.fieldLink "CompiledProgram$Program" 17 "CompiledProgram$Tape" "length" "I" : Cond) ∈ tB := tB_of (List.mem_append_right _ (List.mem_of_getElem? (i := 37) (by decide +kernel))) rfl
theorem mw_38 : (.fieldLink "CompiledProgram" 55 "CompiledProgram$Tape" "length" "I" : Cond) ∈ tB := tB_of (List.mem_append_right _ (List.mem_of_getElem? (i := 38) (by decide +kernel))) rfl
theorem mw_39 : (.lays "CompiledProgram$Tape" "CompiledProgram$Tape" "bytes" "[B" : Cond) ∈ tB := tB_of (List.mem_append_right _ (List.mem_of_getElem? (i := 39) (by decide +kernel))) rfl
theorem mw_40 : (.soleField "CompiledProgram$Tape" "bytes" : Cond) ∈ tB := tB_of (List.mem_append_right _ (List.mem_of_getElem? (i := 40) (by decide +kernel))) rfl
theorem mw_41 : (.lays "CompiledProgram$Tape" "CompiledProgram$Tape" "length" "I" : Cond) ∈ tB := tB_of (List.mem_append_right _ (List.mem_of_getElem? (i := 41) (by decide +kernel))) rfl
theorem mw_42 : (.soleField "CompiledProgram$Tape" "length" : Cond) ∈ tB := tB_of (List.mem_append_right _ (List.mem_of_getElem? (i := 42) (by decide +kernel))) rfl
theorem mw_43 : (.superclass "CompiledProgram$Tape" "java/lang/Object" : Cond) ∈ tB := tB_of (List.mem_append_right _ (List.mem_of_getElem? (i := 43) (by decide +kernel))) rfl
theorem mw_44 : (.arrayClass FieldType.byte : Cond) ∈ tB := tB_of (List.mem_append_right _ (List.mem_of_getElem? (i := 44) (by decide +kernel))) rfl
theorem mw_45 : (.classLink "CompiledProgram" 16 "CompiledProgram$Program" : Cond) ∈ tB := tB_of (List.mem_append_right _ (List.mem_of_getElem? (i := 45) (by decide +kernel))) rfl
theorem mw_46 : (.instantiable "CompiledProgram$Program" 2 : Cond) ∈ tB := tB_of (List.mem_append_right _ (List.mem_of_getElem? (i := 46) (by decide +kernel))) rfl
theorem mw_48 : (.instanceMethod ⟨"CompiledProgram$Program", "<init>", "()V"⟩ : Cond) ∈ tB := tB_of (List.mem_append_right _ (List.mem_of_getElem? (i := 48) (by decide +kernel))) rfl
set_option maxRecDepth 100000 in
theorem mw_49 : (.code ⟨"CompiledProgram$Program", "<init>", "()V"⟩ prog_8_method_1_code 1 (none : Option FieldType) : Cond) ∈ tB := tB_of (List.mem_append_right _ (List.mem_of_getElem? (i := 49) rfl)) rfl
theorem mw_50 : (.methodLink "CompiledProgram$Program" 1 ⟨"java/lang/Object", "<init>", "()V"⟩ : Cond) ∈ tB := tB_of (List.mem_append_right _ (List.mem_of_getElem? (i := 50) (by decide +kernel))) rfl
theorem mw_51 : (.fieldLink "CompiledProgram$Program" 7 "CompiledProgram$Program" "row" "[J" : Cond) ∈ tB := tB_of (List.mem_append_right _ (List.mem_of_getElem? (i := 51) (by decide +kernel))) rfl
theorem mw_52 : (.fieldLink "CompiledProgram$Program" 13 "CompiledProgram$Program" "count" "I" : Cond) ∈ tB := tB_of (List.mem_append_right _ (List.mem_of_getElem? (i := 52) (by decide +kernel))) rfl
theorem mw_53 : (.fieldLink "CompiledProgram$Form" 9 "CompiledProgram$Program" "count" "I" : Cond) ∈ tB := tB_of (List.mem_append_right _ (List.mem_of_getElem? (i := 53) (by decide +kernel))) rfl
theorem mw_54 : (.fieldLink "CompiledProgram" 77 "CompiledProgram$Program" "count" "I" : Cond) ∈ tB := tB_of (List.mem_append_right _ (List.mem_of_getElem? (i := 54) (by decide +kernel))) rfl
theorem mw_55 : (.lays "CompiledProgram$Program" "CompiledProgram$Program" "row" "[J" : Cond) ∈ tB := tB_of (List.mem_append_right _ (List.mem_of_getElem? (i := 55) (by decide +kernel))) rfl
theorem mw_56 : (.soleField "CompiledProgram$Program" "row" : Cond) ∈ tB := tB_of (List.mem_append_right _ (List.mem_of_getElem? (i := 56) (by decide +kernel))) rfl
theorem mw_57 : (.lays "CompiledProgram$Program" "CompiledProgram$Program" "count" "I" : Cond) ∈ tB := tB_of (List.mem_append_right _ (List.mem_of_getElem? (i := 57) (by decide +kernel))) rfl
theorem mw_58 : (.soleField "CompiledProgram$Program" "count" : Cond) ∈ tB := tB_of (List.mem_append_right _ (List.mem_of_getElem? (i := 58) (by decide +kernel))) rfl
theorem mw_59 : (.superclass "CompiledProgram$Program" "java/lang/Object" : Cond) ∈ tB := tB_of (List.mem_append_right _ (List.mem_of_getElem? (i := 59) (by decide +kernel))) rfl
theorem mw_60 : (.arrayClass FieldType.long : Cond) ∈ tB := tB_of (List.mem_append_right _ (List.mem_of_getElem? (i := 60) (by decide +kernel))) rfl
theorem mw_61 : (.classLink "CompiledProgram" 23 "CompiledProgram$Machine" : Cond) ∈ tB := tB_of (List.mem_append_right _ (List.mem_of_getElem? (i := 61) (by decide +kernel))) rfl
theorem mw_62 : (.instantiable "CompiledProgram$Machine" 2 : Cond) ∈ tB := tB_of (List.mem_append_right _ (List.mem_of_getElem? (i := 62) (by decide +kernel))) rfl
theorem mw_64 : (.instanceMethod ⟨"CompiledProgram$Machine", "<init>", "()V"⟩ : Cond) ∈ tB := tB_of (List.mem_append_right _ (List.mem_of_getElem? (i := 64) (by decide +kernel))) rfl
set_option maxRecDepth 100000 in
theorem mw_65 : (.code ⟨"CompiledProgram$Machine", "<init>", "()V"⟩ prog_6_method_1_code 1 (none : Option FieldType) : Cond) ∈ tB := tB_of (List.mem_append_right _ (List.mem_of_getElem? (i := 65) rfl)) rfl
theorem mw_66 : (.methodLink "CompiledProgram$Machine" 1 ⟨"java/lang/Object", "<init>", "()V"⟩ : Cond) ∈ tB := tB_of (List.mem_append_right _ (List.mem_of_getElem? (i := 66) (by decide +kernel))) rfl
theorem mw_67 : (.classLink "CompiledProgram$Machine" 13 "CompiledProgram$Memory" : Cond) ∈ tB := tB_of (List.mem_append_right _ (List.mem_of_getElem? (i := 67) (by decide +kernel))) rfl
theorem mw_68 : (.instantiable "CompiledProgram$Memory" 1 : Cond) ∈ tB := tB_of (List.mem_append_right _ (List.mem_of_getElem? (i := 68) (by decide +kernel))) rfl
theorem mw_70 : (.instanceMethod ⟨"CompiledProgram$Memory", "<init>", "()V"⟩ : Cond) ∈ tB := tB_of (List.mem_append_right _ (List.mem_of_getElem? (i := 70) (by decide +kernel))) rfl
set_option maxRecDepth 100000 in
theorem mw_71 : (.code ⟨"CompiledProgram$Memory", "<init>", "()V"⟩ prog_7_method_1_code 1 (none : Option FieldType) : Cond) ∈ tB := tB_of (List.mem_append_right _ (List.mem_of_getElem? (i := 71) rfl)) rfl
theorem mw_72 : (.methodLink "CompiledProgram$Memory" 1 ⟨"java/lang/Object", "<init>", "()V"⟩ : Cond) ∈ tB := tB_of (List.mem_append_right _ (List.mem_of_getElem? (i := 72) (by decide +kernel))) rfl
theorem mw_73 : (.fieldLink "CompiledProgram$Memory" 9 "CompiledProgram$Memory" "bytes" "[B" : Cond) ∈ tB := tB_of (List.mem_append_right _ (List.mem_of_getElem? (i := 73) (by decide +kernel))) rfl
theorem mw_74 : (.laysFinal "CompiledProgram$Memory" "CompiledProgram$Memory" "bytes" "[B" : Cond) ∈ tB := tB_of (List.mem_append_right _ (List.mem_of_getElem? (i := 74) (by decide +kernel))) rfl
theorem mw_75 : (.soleField "CompiledProgram$Memory" "bytes" : Cond) ∈ tB := tB_of (List.mem_append_right _ (List.mem_of_getElem? (i := 75) (by decide +kernel))) rfl
theorem mw_76 : (.superclass "CompiledProgram$Memory" "java/lang/Object" : Cond) ∈ tB := tB_of (List.mem_append_right _ (List.mem_of_getElem? (i := 76) (by decide +kernel))) rfl
theorem mw_77 : (.fieldLink "CompiledProgram$Machine" 7 "CompiledProgram$Machine" "registers" "[J" : Cond) ∈ tB := tB_of (List.mem_append_right _ (List.mem_of_getElem? (i := 77) (by decide +kernel))) rfl
theorem mw_78 : (.fieldLink "CompiledProgram" 85 "CompiledProgram$Machine" "registers" "[J" : Cond) ∈ tB := tB_of (List.mem_append_right _ (List.mem_of_getElem? (i := 78) (by decide +kernel))) rfl
theorem mw_79 : (.fieldLink "CompiledProgram$Machine" 16 "CompiledProgram$Machine" "memory" "LCompiledProgram$Memory;" : Cond) ∈ tB := tB_of (List.mem_append_right _ (List.mem_of_getElem? (i := 79) (by decide +kernel))) rfl
theorem mw_80 : (.fieldLink "CompiledProgram" 89 "CompiledProgram$Machine" "memory" "LCompiledProgram$Memory;" : Cond) ∈ tB := tB_of (List.mem_append_right _ (List.mem_of_getElem? (i := 80) (by decide +kernel))) rfl
theorem mw_81 : (.laysFinal "CompiledProgram$Machine" "CompiledProgram$Machine" "registers" "[J" : Cond) ∈ tB := tB_of (List.mem_append_right _ (List.mem_of_getElem? (i := 81) (by decide +kernel))) rfl
theorem mw_82 : (.soleField "CompiledProgram$Machine" "registers" : Cond) ∈ tB := tB_of (List.mem_append_right _ (List.mem_of_getElem? (i := 82) (by decide +kernel))) rfl
theorem mw_83 : (.laysFinal "CompiledProgram$Machine" "CompiledProgram$Machine" "memory" "LCompiledProgram$Memory;" : Cond) ∈ tB := tB_of (List.mem_append_right _ (List.mem_of_getElem? (i := 83) (by decide +kernel))) rfl
theorem mw_84 : (.soleField "CompiledProgram$Machine" "memory" : Cond) ∈ tB := tB_of (List.mem_append_right _ (List.mem_of_getElem? (i := 84) (by decide +kernel))) rfl
theorem mw_85 : (.superclass "CompiledProgram$Machine" "java/lang/Object" : Cond) ∈ tB := tB_of (List.mem_append_right _ (List.mem_of_getElem? (i := 85) (by decide +kernel))) rfl
theorem mw_86 : (.fieldLink "CompiledProgram" 10 "CompiledProgram" "tape" "LCompiledProgram$Tape;" : Cond) ∈ tB := tB_of (List.mem_append_right _ (List.mem_of_getElem? (i := 86) (by decide +kernel))) rfl
theorem mw_87 : (.fieldLink "CompiledProgram" 19 "CompiledProgram" "program" "LCompiledProgram$Program;" : Cond) ∈ tB := tB_of (List.mem_append_right _ (List.mem_of_getElem? (i := 87) (by decide +kernel))) rfl
theorem mw_88 : (.fieldLink "CompiledProgram" 26 "CompiledProgram" "machine" "LCompiledProgram$Machine;" : Cond) ∈ tB := tB_of (List.mem_append_right _ (List.mem_of_getElem? (i := 88) (by decide +kernel))) rfl
theorem mw_89 : (.fieldLink "CompiledProgram" 30 "CompiledProgram" "latestPlace" "I" : Cond) ∈ tB := tB_of (List.mem_append_right _ (List.mem_of_getElem? (i := 89) (by decide +kernel))) rfl
theorem mw_90 : (.fieldLink "CompiledProgram" 34 "CompiledProgram" "latestSteps" "I" : Cond) ∈ tB := tB_of (List.mem_append_right _ (List.mem_of_getElem? (i := 90) (by decide +kernel))) rfl
theorem mw_91 : (.laysFinal "CompiledProgram" "CompiledProgram" "tape" "LCompiledProgram$Tape;" : Cond) ∈ tB := tB_of (List.mem_append_right _ (List.mem_of_getElem? (i := 91) (by decide +kernel))) rfl
theorem mw_92 : (.soleField "CompiledProgram" "tape" : Cond) ∈ tB := tB_of (List.mem_append_right _ (List.mem_of_getElem? (i := 92) (by decide +kernel))) rfl
theorem mw_93 : (.laysFinal "CompiledProgram" "CompiledProgram" "program" "LCompiledProgram$Program;" : Cond) ∈ tB := tB_of (List.mem_append_right _ (List.mem_of_getElem? (i := 93) (by decide +kernel))) rfl
theorem mw_94 : (.soleField "CompiledProgram" "program" : Cond) ∈ tB := tB_of (List.mem_append_right _ (List.mem_of_getElem? (i := 94) (by decide +kernel))) rfl
theorem mw_95 : (.laysFinal "CompiledProgram" "CompiledProgram" "machine" "LCompiledProgram$Machine;" : Cond) ∈ tB := tB_of (List.mem_append_right _ (List.mem_of_getElem? (i := 95) (by decide +kernel))) rfl
theorem mw_96 : (.soleField "CompiledProgram" "machine" : Cond) ∈ tB := tB_of (List.mem_append_right _ (List.mem_of_getElem? (i := 96) (by decide +kernel))) rfl
theorem mw_97 : (.lays "CompiledProgram" "CompiledProgram" "latestPlace" "I" : Cond) ∈ tB := tB_of (List.mem_append_right _ (List.mem_of_getElem? (i := 97) (by decide +kernel))) rfl
theorem mw_98 : (.soleField "CompiledProgram" "latestPlace" : Cond) ∈ tB := tB_of (List.mem_append_right _ (List.mem_of_getElem? (i := 98) (by decide +kernel))) rfl
theorem mw_99 : (.lays "CompiledProgram" "CompiledProgram" "latestSteps" "I" : Cond) ∈ tB := tB_of (List.mem_append_right _ (List.mem_of_getElem? (i := 99) (by decide +kernel))) rfl
theorem mw_100 : (.soleField "CompiledProgram" "latestSteps" : Cond) ∈ tB := tB_of (List.mem_append_right _ (List.mem_of_getElem? (i := 100) (by decide +kernel))) rfl
theorem mw_101 : (.superclass "CompiledProgram" "java/lang/Object" : Cond) ∈ tB := tB_of (List.mem_append_right _ (List.mem_of_getElem? (i := 101) (by decide +kernel))) rfl
theorem mw_102 : (.methodLink "CompiledProgramLaw" 61 ⟨"CompiledProgram", "load", "()I"⟩ : Cond) ∈ tB := tB_of (List.mem_append_right _ (List.mem_of_getElem? (i := 102) (by decide +kernel))) rfl
theorem mw_103 : (.instanceMethod ⟨"CompiledProgram", "load", "()I"⟩ : Cond) ∈ tB := tB_of (List.mem_append_right _ (List.mem_of_getElem? (i := 103) (by decide +kernel))) rfl
theorem mw_104 : (.selects "CompiledProgram" ⟨"CompiledProgram", "load", "()I"⟩ ⟨"CompiledProgram", "load", "()I"⟩ : Cond) ∈ tB := tB_of (List.mem_append_right _ (List.mem_of_getElem? (i := 104) (by decide +kernel))) rfl
set_option maxRecDepth 100000 in
theorem mw_105 : (.code ⟨"CompiledProgram", "load", "()I"⟩ prog_1_method_4_code 3 (some FieldType.int) : Cond) ∈ tB := tB_of (List.mem_append_right _ (List.mem_of_getElem? (i := 105) rfl)) rfl
theorem mw_106 : (.methodLink "CompiledProgram" 63 ⟨"CompiledProgram$Program", "takeFrom", "(LCompiledProgram$Tape;)V"⟩ : Cond) ∈ tB := tB_of (List.mem_append_right _ (List.mem_of_getElem? (i := 106) (by decide +kernel))) rfl
theorem mw_107 : (.instanceMethod ⟨"CompiledProgram$Program", "takeFrom", "(LCompiledProgram$Tape;)V"⟩ : Cond) ∈ tB := tB_of (List.mem_append_right _ (List.mem_of_getElem? (i := 107) (by decide +kernel))) rfl
theorem mw_108 : (.selects "CompiledProgram$Program" ⟨"CompiledProgram$Program", "takeFrom", "(LCompiledProgram$Tape;)V"⟩ ⟨"CompiledProgram$Program", "takeFrom", "(LCompiledProgram$Tape;)V"⟩ : Cond) ∈ tB := tB_of (List.mem_append_right _ (List.mem_of_getElem? (i := 108) (by decide +kernel))) rfl
set_option maxRecDepth 100000 in
theorem mw_109 : (.code ⟨"CompiledProgram$Program", "takeFrom", "(LCompiledProgram$Tape;)V"⟩ prog_8_method_2_code 3 (none : Option FieldType) : Cond) ∈ tB := tB_of (List.mem_append_right _ (List.mem_of_getElem? (i := 109) rfl)) rfl
theorem mw_110 : (.methodLink "CompiledProgram$Program" 22 ⟨"java/lang/Math", "max", "(II)I"⟩ : Cond) ∈ tB := tB_of (List.mem_append_right _ (List.mem_of_getElem? (i := 110) (by decide +kernel))) rfl
theorem mw_111 : (.static ⟨"java/lang/Math", "max", "(II)I"⟩ : Cond) ∈ tB := tB_of (List.mem_append_right _ (List.mem_of_getElem? (i := 111) (by decide +kernel))) rfl
set_option maxRecDepth 100000 in
theorem mw_112 : (.code ⟨"java/lang/Math", "max", "(II)I"⟩ prog_18_method_65_code 2 (some FieldType.int) : Cond) ∈ tB := tB_of (List.mem_append_right _ (List.mem_of_getElem? (i := 112) rfl)) rfl
theorem mw_113 : (.methodLink "CompiledProgram$Program" 28 ⟨"CompiledProgram$Tape", "placeAt", "(I)J"⟩ : Cond) ∈ tB := tB_of (List.mem_append_right _ (List.mem_of_getElem? (i := 113) (by decide +kernel))) rfl
theorem mw_114 : (.instanceMethod ⟨"CompiledProgram$Tape", "placeAt", "(I)J"⟩ : Cond) ∈ tB := tB_of (List.mem_append_right _ (List.mem_of_getElem? (i := 114) (by decide +kernel))) rfl
theorem mw_115 : (.selects "CompiledProgram$Tape" ⟨"CompiledProgram$Tape", "placeAt", "(I)J"⟩ ⟨"CompiledProgram$Tape", "placeAt", "(I)J"⟩ : Cond) ∈ tB := tB_of (List.mem_append_right _ (List.mem_of_getElem? (i := 115) (by decide +kernel))) rfl
set_option maxRecDepth 100000 in
theorem mw_116 : (.code ⟨"CompiledProgram$Tape", "placeAt", "(I)J"⟩ prog_9_method_5_code 6 (some FieldType.long) : Cond) ∈ tB := tB_of (List.mem_append_right _ (List.mem_of_getElem? (i := 116) rfl)) rfl
theorem mw_117 : (.methodLink "CompiledProgram" 67 ⟨"CompiledProgram$Form", "firstWrongForItself", "(LCompiledProgram$Program;Z)I"⟩ : Cond) ∈ tB := tB_of (List.mem_append_right _ (List.mem_of_getElem? (i := 117) (by decide +kernel))) rfl
theorem mw_118 : (.static ⟨"CompiledProgram$Form", "firstWrongForItself", "(LCompiledProgram$Program;Z)I"⟩ : Cond) ∈ tB := tB_of (List.mem_append_right _ (List.mem_of_getElem? (i := 118) (by decide +kernel))) rfl
set_option maxRecDepth 100000 in
theorem mw_119 : (.code ⟨"CompiledProgram$Form", "firstWrongForItself", "(LCompiledProgram$Program;Z)I"⟩ prog_5_method_2_code 5 (some FieldType.int) : Cond) ∈ tB := tB_of (List.mem_append_right _ (List.mem_of_getElem? (i := 119) rfl)) rfl
theorem mw_120 : (.methodLink "CompiledProgram$Form" 15 ⟨"CompiledProgram$Program", "at", "(I)J"⟩ : Cond) ∈ tB := tB_of (List.mem_append_right _ (List.mem_of_getElem? (i := 120) (by decide +kernel))) rfl
theorem mw_121 : (.instanceMethod ⟨"CompiledProgram$Program", "at", "(I)J"⟩ : Cond) ∈ tB := tB_of (List.mem_append_right _ (List.mem_of_getElem? (i := 121) (by decide +kernel))) rfl
theorem mw_122 : (.selects "CompiledProgram$Program" ⟨"CompiledProgram$Program", "at", "(I)J"⟩ ⟨"CompiledProgram$Program", "at", "(I)J"⟩ : Cond) ∈ tB := tB_of (List.mem_append_right _ (List.mem_of_getElem? (i := 122) (by decide +kernel))) rfl
set_option maxRecDepth 100000 in
theorem mw_123 : (.code ⟨"CompiledProgram$Program", "at", "(I)J"⟩ prog_8_method_4_code 2 (some FieldType.long) : Cond) ∈ tB := tB_of (List.mem_append_right _ (List.mem_of_getElem? (i := 123) rfl)) rfl
theorem mw_124 : (.methodLink "CompiledProgram$Program" 32 ⟨"CompiledProgram$Program", "has", "(J)Z"⟩ : Cond) ∈ tB := tB_of (List.mem_append_right _ (List.mem_of_getElem? (i := 124) (by decide +kernel))) rfl
theorem mw_125 : (.instanceMethod ⟨"CompiledProgram$Program", "has", "(J)Z"⟩ : Cond) ∈ tB := tB_of (List.mem_append_right _ (List.mem_of_getElem? (i := 125) (by decide +kernel))) rfl
theorem mw_126 : (.selects "CompiledProgram$Program" ⟨"CompiledProgram$Program", "has", "(J)Z"⟩ ⟨"CompiledProgram$Program", "has", "(J)Z"⟩ : Cond) ∈ tB := tB_of (List.mem_append_right _ (List.mem_of_getElem? (i := 126) (by decide +kernel))) rfl
set_option maxRecDepth 100000 in
theorem mw_127 : (.code ⟨"CompiledProgram$Program", "has", "(J)Z"⟩ prog_8_method_3_code 3 (some FieldType.boolean) : Cond) ∈ tB := tB_of (List.mem_append_right _ (List.mem_of_getElem? (i := 127) rfl)) rfl
theorem mw_128 : (.methodLink "CompiledProgram$Form" 19 ⟨"CompiledProgram$Form", "isInstruction", "(J)Z"⟩ : Cond) ∈ tB := tB_of (List.mem_append_right _ (List.mem_of_getElem? (i := 128) (by decide +kernel))) rfl
theorem mw_129 : (.static ⟨"CompiledProgram$Form", "isInstruction", "(J)Z"⟩ : Cond) ∈ tB := tB_of (List.mem_append_right _ (List.mem_of_getElem? (i := 129) (by decide +kernel))) rfl
set_option maxRecDepth 100000 in
theorem mw_130 : (.code ⟨"CompiledProgram$Form", "isInstruction", "(J)Z"⟩ prog_5_method_6_code 2 (some FieldType.boolean) : Cond) ∈ tB := tB_of (List.mem_append_right _ (List.mem_of_getElem? (i := 130) rfl)) rfl
theorem mw_131 : (.methodLink "CompiledProgram$Form" 62 ⟨"CompiledProgram$Fields", "kind", "(J)I"⟩ : Cond) ∈ tB := tB_of (List.mem_append_right _ (List.mem_of_getElem? (i := 131) (by decide +kernel))) rfl
theorem mw_132 : (.static ⟨"CompiledProgram$Fields", "kind", "(J)I"⟩ : Cond) ∈ tB := tB_of (List.mem_append_right _ (List.mem_of_getElem? (i := 132) (by decide +kernel))) rfl
set_option maxRecDepth 100000 in
theorem mw_133 : (.code ⟨"CompiledProgram$Fields", "kind", "(J)I"⟩ prog_4_method_3_code 2 (some FieldType.int) : Cond) ∈ tB := tB_of (List.mem_append_right _ (List.mem_of_getElem? (i := 133) rfl)) rfl
theorem mw_134 : (.methodLink "CompiledProgram$Form" 65 ⟨"CompiledProgram$Form", "isFirstOfTwo", "(J)Z"⟩ : Cond) ∈ tB := tB_of (List.mem_append_right _ (List.mem_of_getElem? (i := 134) (by decide +kernel))) rfl
theorem mw_135 : (.static ⟨"CompiledProgram$Form", "isFirstOfTwo", "(J)Z"⟩ : Cond) ∈ tB := tB_of (List.mem_append_right _ (List.mem_of_getElem? (i := 135) (by decide +kernel))) rfl
set_option maxRecDepth 100000 in
theorem mw_136 : (.code ⟨"CompiledProgram$Form", "isFirstOfTwo", "(J)Z"⟩ prog_5_method_7_code 3 (some FieldType.boolean) : Cond) ∈ tB := tB_of (List.mem_append_right _ (List.mem_of_getElem? (i := 136) rfl)) rfl
theorem mw_137 : (.methodLink "CompiledProgram$Form" 92 ⟨"CompiledProgram$Fields", "source", "(J)I"⟩ : Cond) ∈ tB := tB_of (List.mem_append_right _ (List.mem_of_getElem? (i := 137) (by decide +kernel))) rfl
theorem mw_138 : (.static ⟨"CompiledProgram$Fields", "source", "(J)I"⟩ : Cond) ∈ tB := tB_of (List.mem_append_right _ (List.mem_of_getElem? (i := 138) (by decide +kernel))) rfl
set_option maxRecDepth 100000 in
theorem mw_139 : (.code ⟨"CompiledProgram$Fields", "source", "(J)I"⟩ prog_4_method_9_code 2 (some FieldType.int) : Cond) ∈ tB := tB_of (List.mem_append_right _ (List.mem_of_getElem? (i := 139) rfl)) rfl
theorem mw_140 : (.methodLink "CompiledProgram$Form" 25 ⟨"CompiledProgram$Fields", "isTwoPlaces", "(J)Z"⟩ : Cond) ∈ tB := tB_of (List.mem_append_right _ (List.mem_of_getElem? (i := 140) (by decide +kernel))) rfl
theorem mw_141 : (.static ⟨"CompiledProgram$Fields", "isTwoPlaces", "(J)Z"⟩ : Cond) ∈ tB := tB_of (List.mem_append_right _ (List.mem_of_getElem? (i := 141) (by decide +kernel))) rfl
set_option maxRecDepth 100000 in
theorem mw_142 : (.code ⟨"CompiledProgram$Fields", "isTwoPlaces", "(J)Z"⟩ prog_4_method_12_code 2 (some FieldType.boolean) : Cond) ∈ tB := tB_of (List.mem_append_right _ (List.mem_of_getElem? (i := 142) rfl)) rfl
theorem mw_143 : (.methodLink "CompiledProgram$Fields" 9 ⟨"CompiledProgram$Fields", "code", "(J)I"⟩ : Cond) ∈ tB := tB_of (List.mem_append_right _ (List.mem_of_getElem? (i := 143) (by decide +kernel))) rfl
theorem mw_144 : (.static ⟨"CompiledProgram$Fields", "code", "(J)I"⟩ : Cond) ∈ tB := tB_of (List.mem_append_right _ (List.mem_of_getElem? (i := 144) (by decide +kernel))) rfl
set_option maxRecDepth 100000 in
theorem mw_145 : (.code ⟨"CompiledProgram$Fields", "code", "(J)I"⟩ prog_4_method_2_code 2 (some FieldType.int) : Cond) ∈ tB := tB_of (List.mem_append_right _ (List.mem_of_getElem? (i := 145) rfl)) rfl
theorem mw_146 : (.methodLink "CompiledProgram$Form" 95 ⟨"CompiledProgram$Fields", "target", "(J)I"⟩ : Cond) ∈ tB := tB_of (List.mem_append_right _ (List.mem_of_getElem? (i := 146) (by decide +kernel))) rfl
theorem mw_147 : (.static ⟨"CompiledProgram$Fields", "target", "(J)I"⟩ : Cond) ∈ tB := tB_of (List.mem_append_right _ (List.mem_of_getElem? (i := 147) (by decide +kernel))) rfl
set_option maxRecDepth 100000 in
theorem mw_148 : (.code ⟨"CompiledProgram$Fields", "target", "(J)I"⟩ prog_4_method_8_code 2 (some FieldType.int) : Cond) ∈ tB := tB_of (List.mem_append_right _ (List.mem_of_getElem? (i := 148) rfl)) rfl
theorem mw_149 : (.methodLink "CompiledProgram$Form" 98 ⟨"CompiledProgram$Fields", "offset", "(J)I"⟩ : Cond) ∈ tB := tB_of (List.mem_append_right _ (List.mem_of_getElem? (i := 149) (by decide +kernel))) rfl
theorem mw_150 : (.static ⟨"CompiledProgram$Fields", "offset", "(J)I"⟩ : Cond) ∈ tB := tB_of (List.mem_append_right _ (List.mem_of_getElem? (i := 150) (by decide +kernel))) rfl
set_option maxRecDepth 100000 in
theorem mw_151 : (.code ⟨"CompiledProgram$Fields", "offset", "(J)I"⟩ prog_4_method_10_code 2 (some FieldType.int) : Cond) ∈ tB := tB_of (List.mem_append_right _ (List.mem_of_getElem? (i := 151) rfl)) rfl
theorem mw_152 : (.methodLink "CompiledProgram$Form" 101 ⟨"CompiledProgram$Fields", "immediate", "(J)I"⟩ : Cond) ∈ tB := tB_of (List.mem_append_right _ (List.mem_of_getElem? (i := 152) (by decide +kernel))) rfl
theorem mw_153 : (.static ⟨"CompiledProgram$Fields", "immediate", "(J)I"⟩ : Cond) ∈ tB := tB_of (List.mem_append_right _ (List.mem_of_getElem? (i := 153) (by decide +kernel))) rfl
set_option maxRecDepth 100000 in
theorem mw_154 : (.code ⟨"CompiledProgram$Fields", "immediate", "(J)I"⟩ prog_4_method_11_code 2 (some FieldType.int) : Cond) ∈ tB := tB_of (List.mem_append_right _ (List.mem_of_getElem? (i := 154) rfl)) rfl
theorem mw_155 : (.methodLink "CompiledProgram$Form" 68 ⟨"CompiledProgram$Form", "isRead", "(J)Z"⟩ : Cond) ∈ tB := tB_of (List.mem_append_right _ (List.mem_of_getElem? (i := 155) (by decide +kernel))) rfl
theorem mw_156 : (.static ⟨"CompiledProgram$Form", "isRead", "(J)Z"⟩ : Cond) ∈ tB := tB_of (List.mem_append_right _ (List.mem_of_getElem? (i := 156) (by decide +kernel))) rfl
set_option maxRecDepth 100000 in
theorem mw_157 : (.code ⟨"CompiledProgram$Form", "isRead", "(J)Z"⟩ prog_5_method_9_code 3 (some FieldType.boolean) : Cond) ∈ tB := tB_of (List.mem_append_right _ (List.mem_of_getElem? (i := 157) rfl)) rfl
theorem mw_158 : (.methodLink "CompiledProgram$Form" 74 ⟨"CompiledProgram$Fields", "mode", "(J)I"⟩ : Cond) ∈ tB := tB_of (List.mem_append_right _ (List.mem_of_getElem? (i := 158) (by decide +kernel))) rfl
theorem mw_159 : (.static ⟨"CompiledProgram$Fields", "mode", "(J)I"⟩ : Cond) ∈ tB := tB_of (List.mem_append_right _ (List.mem_of_getElem? (i := 159) (by decide +kernel))) rfl
set_option maxRecDepth 100000 in
theorem mw_160 : (.code ⟨"CompiledProgram$Fields", "mode", "(J)I"⟩ prog_4_method_6_code 2 (some FieldType.int) : Cond) ∈ tB := tB_of (List.mem_append_right _ (List.mem_of_getElem? (i := 160) rfl)) rfl
theorem mw_161 : (.methodLink "CompiledProgram$Form" 104 ⟨"CompiledProgram$Fields", "size", "(J)I"⟩ : Cond) ∈ tB := tB_of (List.mem_append_right _ (List.mem_of_getElem? (i := 161) (by decide +kernel))) rfl
theorem mw_162 : (.static ⟨"CompiledProgram$Fields", "size", "(J)I"⟩ : Cond) ∈ tB := tB_of (List.mem_append_right _ (List.mem_of_getElem? (i := 162) (by decide +kernel))) rfl
set_option maxRecDepth 100000 in
theorem mw_163 : (.code ⟨"CompiledProgram$Fields", "size", "(J)I"⟩ prog_4_method_7_code 2 (some FieldType.int) : Cond) ∈ tB := tB_of (List.mem_append_right _ (List.mem_of_getElem? (i := 163) rfl)) rfl
theorem mw_164 : (.methodLink "CompiledProgram$Form" 71 ⟨"CompiledProgram$Form", "isWriteOfNumber", "(J)Z"⟩ : Cond) ∈ tB := tB_of (List.mem_append_right _ (List.mem_of_getElem? (i := 164) (by decide +kernel))) rfl
theorem mw_165 : (.static ⟨"CompiledProgram$Form", "isWriteOfNumber", "(J)Z"⟩ : Cond) ∈ tB := tB_of (List.mem_append_right _ (List.mem_of_getElem? (i := 165) (by decide +kernel))) rfl
set_option maxRecDepth 100000 in
theorem mw_166 : (.code ⟨"CompiledProgram$Form", "isWriteOfNumber", "(J)Z"⟩ prog_5_method_10_code 2 (some FieldType.boolean) : Cond) ∈ tB := tB_of (List.mem_append_right _ (List.mem_of_getElem? (i := 166) rfl)) rfl
theorem mw_167 : (.methodLink "CompiledProgram$Form" 77 ⟨"CompiledProgram$Form", "isExchange", "(J)Z"⟩ : Cond) ∈ tB := tB_of (List.mem_append_right _ (List.mem_of_getElem? (i := 167) (by decide +kernel))) rfl
theorem mw_168 : (.static ⟨"CompiledProgram$Form", "isExchange", "(J)Z"⟩ : Cond) ∈ tB := tB_of (List.mem_append_right _ (List.mem_of_getElem? (i := 168) (by decide +kernel))) rfl
set_option maxRecDepth 100000 in
theorem mw_169 : (.code ⟨"CompiledProgram$Form", "isExchange", "(J)Z"⟩ prog_5_method_12_code 2 (some FieldType.boolean) : Cond) ∈ tB := tB_of (List.mem_append_right _ (List.mem_of_getElem? (i := 169) rfl)) rfl
theorem mw_170 : (.methodLink "CompiledProgram$Form" 107 ⟨"CompiledProgram$Exchange", "isKnown", "(I)Z"⟩ : Cond) ∈ tB := tB_of (List.mem_append_right _ (List.mem_of_getElem? (i := 170) (by decide +kernel))) rfl
theorem mw_171 : (.static ⟨"CompiledProgram$Exchange", "isKnown", "(I)Z"⟩ : Cond) ∈ tB := tB_of (List.mem_append_right _ (List.mem_of_getElem? (i := 171) (by decide +kernel))) rfl
set_option maxRecDepth 100000 in
theorem mw_172 : (.code ⟨"CompiledProgram$Exchange", "isKnown", "(I)Z"⟩ prog_3_method_2_code 1 (some FieldType.boolean) : Cond) ∈ tB := tB_of (List.mem_append_right _ (List.mem_of_getElem? (i := 172) rfl)) rfl
theorem mw_173 : (.methodLink "CompiledProgram$Form" 113 ⟨"CompiledProgram$Exchange", "changesSource", "(I)Z"⟩ : Cond) ∈ tB := tB_of (List.mem_append_right _ (List.mem_of_getElem? (i := 173) (by decide +kernel))) rfl
theorem mw_174 : (.static ⟨"CompiledProgram$Exchange", "changesSource", "(I)Z"⟩ : Cond) ∈ tB := tB_of (List.mem_append_right _ (List.mem_of_getElem? (i := 174) (by decide +kernel))) rfl
set_option maxRecDepth 100000 in
theorem mw_175 : (.code ⟨"CompiledProgram$Exchange", "changesSource", "(I)Z"⟩ prog_3_method_3_code 1 (some FieldType.boolean) : Cond) ∈ tB := tB_of (List.mem_append_right _ (List.mem_of_getElem? (i := 175) rfl)) rfl
theorem mw_176 : (.methodLink "CompiledProgram$Form" 80 ⟨"CompiledProgram$Form", "isWriteOfRegister", "(J)Z"⟩ : Cond) ∈ tB := tB_of (List.mem_append_right _ (List.mem_of_getElem? (i := 176) (by decide +kernel))) rfl
theorem mw_177 : (.static ⟨"CompiledProgram$Form", "isWriteOfRegister", "(J)Z"⟩ : Cond) ∈ tB := tB_of (List.mem_append_right _ (List.mem_of_getElem? (i := 177) (by decide +kernel))) rfl
set_option maxRecDepth 100000 in
theorem mw_178 : (.code ⟨"CompiledProgram$Form", "isWriteOfRegister", "(J)Z"⟩ prog_5_method_11_code 2 (some FieldType.boolean) : Cond) ∈ tB := tB_of (List.mem_append_right _ (List.mem_of_getElem? (i := 178) rfl)) rfl
theorem mw_179 : (.methodLink "CompiledProgram$Form" 55 ⟨"CompiledProgram$Fields", "jumpsPerhaps", "(J)Z"⟩ : Cond) ∈ tB := tB_of (List.mem_append_right _ (List.mem_of_getElem? (i := 179) (by decide +kernel))) rfl
theorem mw_180 : (.static ⟨"CompiledProgram$Fields", "jumpsPerhaps", "(J)Z"⟩ : Cond) ∈ tB := tB_of (List.mem_append_right _ (List.mem_of_getElem? (i := 180) (by decide +kernel))) rfl
set_option maxRecDepth 100000 in
theorem mw_181 : (.code ⟨"CompiledProgram$Fields", "jumpsPerhaps", "(J)Z"⟩ prog_4_method_16_code 4 (some FieldType.boolean) : Cond) ∈ tB := tB_of (List.mem_append_right _ (List.mem_of_getElem? (i := 181) rfl)) rfl
theorem mw_182 : (.methodLink "CompiledProgram$Fields" 15 ⟨"CompiledProgram$Fields", "operation", "(J)I"⟩ : Cond) ∈ tB := tB_of (List.mem_append_right _ (List.mem_of_getElem? (i := 182) (by decide +kernel))) rfl
theorem mw_183 : (.static ⟨"CompiledProgram$Fields", "operation", "(J)I"⟩ : Cond) ∈ tB := tB_of (List.mem_append_right _ (List.mem_of_getElem? (i := 183) (by decide +kernel))) rfl
set_option maxRecDepth 100000 in
theorem mw_184 : (.code ⟨"CompiledProgram$Fields", "operation", "(J)I"⟩ prog_4_method_4_code 2 (some FieldType.int) : Cond) ∈ tB := tB_of (List.mem_append_right _ (List.mem_of_getElem? (i := 184) rfl)) rfl
theorem mw_185 : (.methodLink "CompiledProgram$Fields" 18 ⟨"CompiledProgram$Fields", "kind", "(J)I"⟩ : Cond) ∈ tB := tB_of (List.mem_append_right _ (List.mem_of_getElem? (i := 185) (by decide +kernel))) rfl
theorem mw_186 : (.methodLink "CompiledProgram$Form" 83 ⟨"CompiledProgram$Form", "isPerhapsJump", "(J)Z"⟩ : Cond) ∈ tB := tB_of (List.mem_append_right _ (List.mem_of_getElem? (i := 186) (by decide +kernel))) rfl
theorem mw_187 : (.static ⟨"CompiledProgram$Form", "isPerhapsJump", "(J)Z"⟩ : Cond) ∈ tB := tB_of (List.mem_append_right _ (List.mem_of_getElem? (i := 187) (by decide +kernel))) rfl
set_option maxRecDepth 100000 in
theorem mw_188 : (.code ⟨"CompiledProgram$Form", "isPerhapsJump", "(J)Z"⟩ prog_5_method_13_code 2 (some FieldType.boolean) : Cond) ∈ tB := tB_of (List.mem_append_right _ (List.mem_of_getElem? (i := 188) rfl)) rfl
theorem mw_189 : (.methodLink "CompiledProgram$Form" 116 ⟨"CompiledProgram$Form", "hasOperand", "(J)Z"⟩ : Cond) ∈ tB := tB_of (List.mem_append_right _ (List.mem_of_getElem? (i := 189) (by decide +kernel))) rfl
theorem mw_190 : (.static ⟨"CompiledProgram$Form", "hasOperand", "(J)Z"⟩ : Cond) ∈ tB := tB_of (List.mem_append_right _ (List.mem_of_getElem? (i := 190) (by decide +kernel))) rfl
set_option maxRecDepth 100000 in
theorem mw_191 : (.code ⟨"CompiledProgram$Form", "hasOperand", "(J)Z"⟩ prog_5_method_15_code 2 (some FieldType.boolean) : Cond) ∈ tB := tB_of (List.mem_append_right _ (List.mem_of_getElem? (i := 191) rfl)) rfl
theorem mw_192 : (.methodLink "CompiledProgram$Form" 119 ⟨"CompiledProgram$Fields", "usesSource", "(J)Z"⟩ : Cond) ∈ tB := tB_of (List.mem_append_right _ (List.mem_of_getElem? (i := 192) (by decide +kernel))) rfl
theorem mw_193 : (.static ⟨"CompiledProgram$Fields", "usesSource", "(J)Z"⟩ : Cond) ∈ tB := tB_of (List.mem_append_right _ (List.mem_of_getElem? (i := 193) (by decide +kernel))) rfl
set_option maxRecDepth 100000 in
theorem mw_194 : (.code ⟨"CompiledProgram$Fields", "usesSource", "(J)Z"⟩ prog_4_method_5_code 2 (some FieldType.boolean) : Cond) ∈ tB := tB_of (List.mem_append_right _ (List.mem_of_getElem? (i := 194) rfl)) rfl
theorem mw_195 : (.constantLong "CompiledProgram$Fields" 7 8 : Cond) ∈ tB := tB_of (List.mem_append_right _ (List.mem_of_getElem? (i := 195) (by decide +kernel))) rfl
theorem mw_196 : (.methodLink "CompiledProgram$Form" 86 ⟨"CompiledProgram$Form", "isCallOrExitOrJump", "(J)Z"⟩ : Cond) ∈ tB := tB_of (List.mem_append_right _ (List.mem_of_getElem? (i := 196) (by decide +kernel))) rfl
theorem mw_197 : (.static ⟨"CompiledProgram$Form", "isCallOrExitOrJump", "(J)Z"⟩ : Cond) ∈ tB := tB_of (List.mem_append_right _ (List.mem_of_getElem? (i := 197) (by decide +kernel))) rfl
set_option maxRecDepth 100000 in
theorem mw_198 : (.code ⟨"CompiledProgram$Form", "isCallOrExitOrJump", "(J)Z"⟩ prog_5_method_14_code 2 (some FieldType.boolean) : Cond) ∈ tB := tB_of (List.mem_append_right _ (List.mem_of_getElem? (i := 198) rfl)) rfl
theorem mw_199 : (.methodLink "CompiledProgram$Form" 58 ⟨"CompiledProgram$Fields", "code", "(J)I"⟩ : Cond) ∈ tB := tB_of (List.mem_append_right _ (List.mem_of_getElem? (i := 199) (by decide +kernel))) rfl
theorem mw_200 : (.methodLink "CompiledProgram$Form" 89 ⟨"CompiledProgram$Form", "isArithmetic", "(J)Z"⟩ : Cond) ∈ tB := tB_of (List.mem_append_right _ (List.mem_of_getElem? (i := 200) (by decide +kernel))) rfl
theorem mw_201 : (.static ⟨"CompiledProgram$Form", "isArithmetic", "(J)Z"⟩ : Cond) ∈ tB := tB_of (List.mem_append_right _ (List.mem_of_getElem? (i := 201) (by decide +kernel))) rfl
set_option maxRecDepth 100000 in
theorem mw_202 : (.code ⟨"CompiledProgram$Form", "isArithmetic", "(J)Z"⟩ prog_5_method_16_code 2 (some FieldType.boolean) : Cond) ∈ tB := tB_of (List.mem_append_right _ (List.mem_of_getElem? (i := 202) rfl)) rfl
theorem mw_203 : (.methodLink "CompiledProgram$Form" 122 ⟨"CompiledProgram$Fields", "operation", "(J)I"⟩ : Cond) ∈ tB := tB_of (List.mem_append_right _ (List.mem_of_getElem? (i := 203) (by decide +kernel))) rfl
theorem mw_204 : (.methodLink "CompiledProgram$Form" 125 ⟨"CompiledProgram$Form", "isMoveOffset", "(J)Z"⟩ : Cond) ∈ tB := tB_of (List.mem_append_right _ (List.mem_of_getElem? (i := 204) (by decide +kernel))) rfl
theorem mw_205 : (.static ⟨"CompiledProgram$Form", "isMoveOffset", "(J)Z"⟩ : Cond) ∈ tB := tB_of (List.mem_append_right _ (List.mem_of_getElem? (i := 205) (by decide +kernel))) rfl
set_option maxRecDepth 100000 in
theorem mw_206 : (.code ⟨"CompiledProgram$Form", "isMoveOffset", "(J)Z"⟩ prog_5_method_17_code 2 (some FieldType.boolean) : Cond) ∈ tB := tB_of (List.mem_append_right _ (List.mem_of_getElem? (i := 206) rfl)) rfl
theorem mw_207 : (.methodLink "CompiledProgram$Form" 128 ⟨"CompiledProgram$Form", "isTurning", "(J)Z"⟩ : Cond) ∈ tB := tB_of (List.mem_append_right _ (List.mem_of_getElem? (i := 207) (by decide +kernel))) rfl
theorem mw_208 : (.static ⟨"CompiledProgram$Form", "isTurning", "(J)Z"⟩ : Cond) ∈ tB := tB_of (List.mem_append_right _ (List.mem_of_getElem? (i := 208) (by decide +kernel))) rfl
set_option maxRecDepth 100000 in
theorem mw_209 : (.code ⟨"CompiledProgram$Form", "isTurning", "(J)Z"⟩ prog_5_method_18_code 3 (some FieldType.boolean) : Cond) ∈ tB := tB_of (List.mem_append_right _ (List.mem_of_getElem? (i := 209) rfl)) rfl
theorem mw_210 : (.methodLink "CompiledProgram$Form" 30 ⟨"CompiledProgram$Program", "has", "(J)Z"⟩ : Cond) ∈ tB := tB_of (List.mem_append_right _ (List.mem_of_getElem? (i := 210) (by decide +kernel))) rfl
theorem mw_211 : (.methodLink "CompiledProgram$Form" 33 ⟨"CompiledProgram$Form", "isSecondOf", "(JJ)Z"⟩ : Cond) ∈ tB := tB_of (List.mem_append_right _ (List.mem_of_getElem? (i := 211) (by decide +kernel))) rfl
theorem mw_212 : (.static ⟨"CompiledProgram$Form", "isSecondOf", "(JJ)Z"⟩ : Cond) ∈ tB := tB_of (List.mem_append_right _ (List.mem_of_getElem? (i := 212) (by decide +kernel))) rfl
set_option maxRecDepth 100000 in
theorem mw_213 : (.code ⟨"CompiledProgram$Form", "isSecondOf", "(JJ)Z"⟩ prog_5_method_8_code 5 (some FieldType.boolean) : Cond) ∈ tB := tB_of (List.mem_append_right _ (List.mem_of_getElem? (i := 213) rfl)) rfl
theorem mw_214 : (.methodLink "CompiledProgram" 73 ⟨"CompiledProgram$Form", "firstGoingWrong", "(LCompiledProgram$Program;)I"⟩ : Cond) ∈ tB := tB_of (List.mem_append_right _ (List.mem_of_getElem? (i := 214) (by decide +kernel))) rfl
theorem mw_215 : (.static ⟨"CompiledProgram$Form", "firstGoingWrong", "(LCompiledProgram$Program;)I"⟩ : Cond) ∈ tB := tB_of (List.mem_append_right _ (List.mem_of_getElem? (i := 215) (by decide +kernel))) rfl
set_option maxRecDepth 100000 in
theorem mw_216 : (.code ⟨"CompiledProgram$Form", "firstGoingWrong", "(LCompiledProgram$Program;)I"⟩ prog_5_method_3_code 4 (some FieldType.int) : Cond) ∈ tB := tB_of (List.mem_append_right _ (List.mem_of_getElem? (i := 216) rfl)) rfl
theorem mw_217 : (.methodLink "CompiledProgram$Form" 37 ⟨"CompiledProgram$Form", "goesOnRightly", "(LCompiledProgram$Program;IJ)Z"⟩ : Cond) ∈ tB := tB_of (List.mem_append_right _ (List.mem_of_getElem? (i := 217) (by decide +kernel))) rfl
theorem mw_218 : (.static ⟨"CompiledProgram$Form", "goesOnRightly", "(LCompiledProgram$Program;IJ)Z"⟩ : Cond) ∈ tB := tB_of (List.mem_append_right _ (List.mem_of_getElem? (i := 218) (by decide +kernel))) rfl
set_option maxRecDepth 100000 in
theorem mw_219 : (.code ⟨"CompiledProgram$Form", "goesOnRightly", "(LCompiledProgram$Program;IJ)Z"⟩ prog_5_method_4_code 4 (some FieldType.boolean) : Cond) ∈ tB := tB_of (List.mem_append_right _ (List.mem_of_getElem? (i := 219) rfl)) rfl
theorem mw_220 : (.methodLink "CompiledProgram$Form" 41 ⟨"CompiledProgram$Fields", "isExit", "(J)Z"⟩ : Cond) ∈ tB := tB_of (List.mem_append_right _ (List.mem_of_getElem? (i := 220) (by decide +kernel))) rfl
theorem mw_221 : (.static ⟨"CompiledProgram$Fields", "isExit", "(J)Z"⟩ : Cond) ∈ tB := tB_of (List.mem_append_right _ (List.mem_of_getElem? (i := 221) (by decide +kernel))) rfl
set_option maxRecDepth 100000 in
theorem mw_222 : (.code ⟨"CompiledProgram$Fields", "isExit", "(J)Z"⟩ prog_4_method_13_code 2 (some FieldType.boolean) : Cond) ∈ tB := tB_of (List.mem_append_right _ (List.mem_of_getElem? (i := 222) rfl)) rfl
theorem mw_223 : (.methodLink "CompiledProgram$Form" 44 ⟨"CompiledProgram$Fields", "jumpsAlways", "(J)Z"⟩ : Cond) ∈ tB := tB_of (List.mem_append_right _ (List.mem_of_getElem? (i := 223) (by decide +kernel))) rfl
theorem mw_224 : (.static ⟨"CompiledProgram$Fields", "jumpsAlways", "(J)Z"⟩ : Cond) ∈ tB := tB_of (List.mem_append_right _ (List.mem_of_getElem? (i := 224) (by decide +kernel))) rfl
set_option maxRecDepth 100000 in
theorem mw_225 : (.code ⟨"CompiledProgram$Fields", "jumpsAlways", "(J)Z"⟩ prog_4_method_15_code 2 (some FieldType.boolean) : Cond) ∈ tB := tB_of (List.mem_append_right _ (List.mem_of_getElem? (i := 225) rfl)) rfl
theorem mw_226 : (.methodLink "CompiledProgram$Form" 47 ⟨"CompiledProgram$Fields", "jumpFrom", "(IJ)J"⟩ : Cond) ∈ tB := tB_of (List.mem_append_right _ (List.mem_of_getElem? (i := 226) (by decide +kernel))) rfl
theorem mw_227 : (.static ⟨"CompiledProgram$Fields", "jumpFrom", "(IJ)J"⟩ : Cond) ∈ tB := tB_of (List.mem_append_right _ (List.mem_of_getElem? (i := 227) (by decide +kernel))) rfl
set_option maxRecDepth 100000 in
theorem mw_228 : (.code ⟨"CompiledProgram$Fields", "jumpFrom", "(IJ)J"⟩ prog_4_method_17_code 3 (some FieldType.long) : Cond) ∈ tB := tB_of (List.mem_append_right _ (List.mem_of_getElem? (i := 228) rfl)) rfl
theorem mw_229 : (.methodLink "CompiledProgram$Fields" 21 ⟨"CompiledProgram$Fields", "immediate", "(J)I"⟩ : Cond) ∈ tB := tB_of (List.mem_append_right _ (List.mem_of_getElem? (i := 229) (by decide +kernel))) rfl
theorem mw_230 : (.methodLink "CompiledProgram$Fields" 24 ⟨"CompiledProgram$Fields", "offset", "(J)I"⟩ : Cond) ∈ tB := tB_of (List.mem_append_right _ (List.mem_of_getElem? (i := 230) (by decide +kernel))) rfl
theorem mw_231 : (.methodLink "CompiledProgram$Form" 51 ⟨"CompiledProgram$Form", "isStart", "(LCompiledProgram$Program;J)Z"⟩ : Cond) ∈ tB := tB_of (List.mem_append_right _ (List.mem_of_getElem? (i := 231) (by decide +kernel))) rfl
theorem mw_232 : (.static ⟨"CompiledProgram$Form", "isStart", "(LCompiledProgram$Program;J)Z"⟩ : Cond) ∈ tB := tB_of (List.mem_append_right _ (List.mem_of_getElem? (i := 232) (by decide +kernel))) rfl
set_option maxRecDepth 100000 in
theorem mw_233 : (.code ⟨"CompiledProgram$Form", "isStart", "(LCompiledProgram$Program;J)Z"⟩ prog_5_method_5_code 3 (some FieldType.boolean) : Cond) ∈ tB := tB_of (List.mem_append_right _ (List.mem_of_getElem? (i := 233) rfl)) rfl
theorem mw_234 : (.methodLink "CompiledProgramLaw" 65 ⟨"CompiledProgram", "places", "()I"⟩ : Cond) ∈ tB := tB_of (List.mem_append_right _ (List.mem_of_getElem? (i := 234) (by decide +kernel))) rfl
theorem mw_235 : (.instanceMethod ⟨"CompiledProgram", "places", "()I"⟩ : Cond) ∈ tB := tB_of (List.mem_append_right _ (List.mem_of_getElem? (i := 235) (by decide +kernel))) rfl
theorem mw_236 : (.selects "CompiledProgram" ⟨"CompiledProgram", "places", "()I"⟩ ⟨"CompiledProgram", "places", "()I"⟩ : Cond) ∈ tB := tB_of (List.mem_append_right _ (List.mem_of_getElem? (i := 236) (by decide +kernel))) rfl
set_option maxRecDepth 100000 in
theorem mw_237 : (.code ⟨"CompiledProgram", "places", "()I"⟩ prog_1_method_5_code 1 (some FieldType.int) : Cond) ∈ tB := tB_of (List.mem_append_right _ (List.mem_of_getElem? (i := 237) rfl)) rfl
theorem mw_238 : (.methodLink "CompiledProgramLaw" 90 ⟨"CompiledProgram", "place", "()I"⟩ : Cond) ∈ tB := tB_of (List.mem_append_right _ (List.mem_of_getElem? (i := 238) (by decide +kernel))) rfl
theorem mw_239 : (.instanceMethod ⟨"CompiledProgram", "place", "()I"⟩ : Cond) ∈ tB := tB_of (List.mem_append_right _ (List.mem_of_getElem? (i := 239) (by decide +kernel))) rfl
theorem mw_240 : (.selects "CompiledProgram" ⟨"CompiledProgram", "place", "()I"⟩ ⟨"CompiledProgram", "place", "()I"⟩ : Cond) ∈ tB := tB_of (List.mem_append_right _ (List.mem_of_getElem? (i := 240) (by decide +kernel))) rfl
set_option maxRecDepth 100000 in
theorem mw_241 : (.code ⟨"CompiledProgram", "place", "()I"⟩ prog_1_method_11_code 1 (some FieldType.int) : Cond) ∈ tB := tB_of (List.mem_append_right _ (List.mem_of_getElem? (i := 241) rfl)) rfl
theorem mw_242 : (.methodLink "CompiledProgramLaw" 94 ⟨"CompiledProgram", "steps", "()I"⟩ : Cond) ∈ tB := tB_of (List.mem_append_right _ (List.mem_of_getElem? (i := 242) (by decide +kernel))) rfl
theorem mw_243 : (.instanceMethod ⟨"CompiledProgram", "steps", "()I"⟩ : Cond) ∈ tB := tB_of (List.mem_append_right _ (List.mem_of_getElem? (i := 243) (by decide +kernel))) rfl
theorem mw_244 : (.selects "CompiledProgram" ⟨"CompiledProgram", "steps", "()I"⟩ ⟨"CompiledProgram", "steps", "()I"⟩ : Cond) ∈ tB := tB_of (List.mem_append_right _ (List.mem_of_getElem? (i := 244) (by decide +kernel))) rfl
set_option maxRecDepth 100000 in
theorem mw_245 : (.code ⟨"CompiledProgram", "steps", "()I"⟩ prog_1_method_12_code 1 (some FieldType.int) : Cond) ∈ tB := tB_of (List.mem_append_right _ (List.mem_of_getElem? (i := 245) rfl)) rfl
theorem mw_246 : (.methodLink "CompiledProgramLaw" 47 ⟨"CompiledProgramLaw", "feed", "(LCompiledProgram;IIIII[J)I"⟩ : Cond) ∈ tB := tB_of (List.mem_append_right _ (List.mem_of_getElem? (i := 246) (by decide +kernel))) rfl
theorem mw_247 : (.static ⟨"CompiledProgramLaw", "feed", "(LCompiledProgram;IIIII[J)I"⟩ : Cond) ∈ tB := tB_of (List.mem_append_right _ (List.mem_of_getElem? (i := 247) (by decide +kernel))) rfl
set_option maxRecDepth 100000 in
theorem mw_248 : (.codeWith ⟨"CompiledProgramLaw", "feed", "(LCompiledProgram;IIIII[J)I"⟩ method_3_code 8 (some FieldType.int) [(0, 16, 19, 13)] : Cond) ∈ tB := tB_of (List.mem_append_right _ (List.mem_of_getElem? (i := 248) rfl)) rfl
theorem mw_249 : (.classLink "CompiledProgramLaw" 13 "java/lang/IllegalStateException" : Cond) ∈ tB := tB_of (List.mem_append_right _ (List.mem_of_getElem? (i := 249) (by decide +kernel))) rfl
theorem mw_250 : (.methodLink "CompiledProgramLaw" 7 ⟨"CompiledProgram", "feed", "(IIIII)I"⟩ : Cond) ∈ tB := tB_of (List.mem_append_right _ (List.mem_of_getElem? (i := 250) (by decide +kernel))) rfl
theorem mw_251 : (.instanceMethod ⟨"CompiledProgram", "feed", "(IIIII)I"⟩ : Cond) ∈ tB := tB_of (List.mem_append_right _ (List.mem_of_getElem? (i := 251) (by decide +kernel))) rfl
theorem mw_252 : (.selects "CompiledProgram" ⟨"CompiledProgram", "feed", "(IIIII)I"⟩ ⟨"CompiledProgram", "feed", "(IIIII)I"⟩ : Cond) ∈ tB := tB_of (List.mem_append_right _ (List.mem_of_getElem? (i := 252) (by decide +kernel))) rfl
set_option maxRecDepth 100000 in
theorem mw_253 : (.code ⟨"CompiledProgram", "feed", "(IIIII)I"⟩ prog_1_method_2_code 6 (some FieldType.int) : Cond) ∈ tB := tB_of (List.mem_append_right _ (List.mem_of_getElem? (i := 253) rfl)) rfl
theorem mw_254 : (.methodLink "CompiledProgram" 37 ⟨"CompiledProgram$Tape", "hasRoom", "()Z"⟩ : Cond) ∈ tB := tB_of (List.mem_append_right _ (List.mem_of_getElem? (i := 254) (by decide +kernel))) rfl
theorem mw_255 : (.instanceMethod ⟨"CompiledProgram$Tape", "hasRoom", "()Z"⟩ : Cond) ∈ tB := tB_of (List.mem_append_right _ (List.mem_of_getElem? (i := 255) (by decide +kernel))) rfl
theorem mw_256 : (.selects "CompiledProgram$Tape" ⟨"CompiledProgram$Tape", "hasRoom", "()Z"⟩ ⟨"CompiledProgram$Tape", "hasRoom", "()Z"⟩ : Cond) ∈ tB := tB_of (List.mem_append_right _ (List.mem_of_getElem? (i := 256) (by decide +kernel))) rfl
set_option maxRecDepth 100000 in
theorem mw_257 : (.code ⟨"CompiledProgram$Tape", "hasRoom", "()Z"⟩ prog_9_method_2_code 1 (some FieldType.boolean) : Cond) ∈ tB := tB_of (List.mem_append_right _ (List.mem_of_getElem? (i := 257) rfl)) rfl
theorem mw_258 : (.constant "CompiledProgram$Tape" 17 32768 : Cond) ∈ tB := tB_of (List.mem_append_right _ (List.mem_of_getElem? (i := 258) (by decide +kernel))) rfl
theorem mw_259 : (.classLink "CompiledProgram" 41 "java/lang/IllegalStateException" : Cond) ∈ tB := tB_of (List.mem_append_right _ (List.mem_of_getElem? (i := 259) (by decide +kernel))) rfl
theorem mw_260 : (.instantiable "java/lang/IllegalStateException" 6 : Cond) ∈ tB := tB_of (List.mem_append_right _ (List.mem_of_getElem? (i := 260) (by decide +kernel))) rfl
theorem mw_268 : (.selects "java/lang/IllegalStateException" ⟨"java/lang/Throwable", "fillInStackTrace", "(I)Ljava/lang/Throwable;"⟩ ⟨"java/lang/Throwable", "fillInStackTrace", "(I)Ljava/lang/Throwable;"⟩ : Cond) ∈ tB := tB_of (List.mem_append_right _ (List.mem_of_getElem? (i := 268) (by decide +kernel))) rfl
theorem mw_269 : (.selects "java/lang/IllegalStateException" ⟨"java/lang/Throwable", "fillInStackTrace", "()Ljava/lang/Throwable;"⟩ ⟨"java/lang/Throwable", "fillInStackTrace", "()Ljava/lang/Throwable;"⟩ : Cond) ∈ tB := tB_of (List.mem_append_right _ (List.mem_of_getElem? (i := 269) (by decide +kernel))) rfl
theorem mw_270 : (.lays "java/lang/IllegalStateException" "java/lang/Throwable" "cause" "Ljava/lang/Throwable;" : Cond) ∈ tB := tB_of (List.mem_append_right _ (List.mem_of_getElem? (i := 270) (by decide +kernel))) rfl
theorem mw_271 : (.lays "java/lang/Throwable" "java/lang/Throwable" "cause" "Ljava/lang/Throwable;" : Cond) ∈ tB := tB_of (List.mem_append_right _ (List.mem_of_getElem? (i := 271) (by decide +kernel))) rfl
theorem mw_272 : (.lays "java/lang/IllegalStateException" "java/lang/Throwable" "stackTrace" "[Ljava/lang/StackTraceElement;" : Cond) ∈ tB := tB_of (List.mem_append_right _ (List.mem_of_getElem? (i := 272) (by decide +kernel))) rfl
theorem mw_273 : (.lays "java/lang/Throwable" "java/lang/Throwable" "stackTrace" "[Ljava/lang/StackTraceElement;" : Cond) ∈ tB := tB_of (List.mem_append_right _ (List.mem_of_getElem? (i := 273) (by decide +kernel))) rfl
theorem mw_274 : (.lays "java/lang/IllegalStateException" "java/lang/Throwable" "suppressedExceptions" "Ljava/util/List;" : Cond) ∈ tB := tB_of (List.mem_append_right _ (List.mem_of_getElem? (i := 274) (by decide +kernel))) rfl
theorem mw_275 : (.lays "java/lang/Throwable" "java/lang/Throwable" "suppressedExceptions" "Ljava/util/List;" : Cond) ∈ tB := tB_of (List.mem_append_right _ (List.mem_of_getElem? (i := 275) (by decide +kernel))) rfl
theorem mw_276 : (.lays "java/lang/IllegalStateException" "java/lang/Throwable" "detailMessage" "Ljava/lang/String;" : Cond) ∈ tB := tB_of (List.mem_append_right _ (List.mem_of_getElem? (i := 276) (by decide +kernel))) rfl
theorem mw_277 : (.lays "java/lang/Throwable" "java/lang/Throwable" "detailMessage" "Ljava/lang/String;" : Cond) ∈ tB := tB_of (List.mem_append_right _ (List.mem_of_getElem? (i := 277) (by decide +kernel))) rfl
theorem mw_278 : (.lays "java/lang/IllegalStateException" "java/lang/Throwable" "backtrace" "Ljava/lang/Object;" : Cond) ∈ tB := tB_of (List.mem_append_right _ (List.mem_of_getElem? (i := 278) (by decide +kernel))) rfl
theorem mw_279 : (.lays "java/lang/Throwable" "java/lang/Throwable" "backtrace" "Ljava/lang/Object;" : Cond) ∈ tB := tB_of (List.mem_append_right _ (List.mem_of_getElem? (i := 279) (by decide +kernel))) rfl
theorem mw_280 : (.fieldLink "java/lang/Throwable" 198 "java/lang/Throwable" "backtrace" "Ljava/lang/Object;" : Cond) ∈ tB := tB_of (List.mem_append_right _ (List.mem_of_getElem? (i := 280) (by decide +kernel))) rfl
theorem mw_281 : (.superclass "java/lang/Throwable" "java/lang/Object" : Cond) ∈ tB := tB_of (List.mem_append_right _ (List.mem_of_getElem? (i := 281) (by decide +kernel))) rfl
theorem mw_282 : (.instanceMethod ⟨"java/lang/Throwable", "<init>", "()V"⟩ : Cond) ∈ tB := tB_of (List.mem_append_right _ (List.mem_of_getElem? (i := 282) (by decide +kernel))) rfl
set_option maxRecDepth 100000 in
theorem mw_283 : (.code ⟨"java/lang/Throwable", "<init>", "()V"⟩ prog_22_method_1_code 1 (none : Option FieldType) : Cond) ∈ tB := tB_of (List.mem_append_right _ (List.mem_of_getElem? (i := 283) rfl)) rfl
theorem mw_284 : (.methodLink "java/lang/Throwable" 1 ⟨"java/lang/Object", "<init>", "()V"⟩ : Cond) ∈ tB := tB_of (List.mem_append_right _ (List.mem_of_getElem? (i := 284) (by decide +kernel))) rfl
theorem mw_285 : (.fieldLink "java/lang/Throwable" 13 "java/lang/Throwable" "UNASSIGNED_STACK" "[Ljava/lang/StackTraceElement;" : Cond) ∈ tB := tB_of (List.mem_append_right _ (List.mem_of_getElem? (i := 285) (by decide +kernel))) rfl
theorem mw_287 : (.fieldLink "java/lang/Throwable" 20 "java/lang/Throwable" "SUPPRESSED_SENTINEL" "Ljava/util/List;" : Cond) ∈ tB := tB_of (List.mem_append_right _ (List.mem_of_getElem? (i := 287) (by decide +kernel))) rfl
theorem mw_289 : (.methodLink "java/lang/Throwable" 27 ⟨"java/lang/Throwable", "fillInStackTrace", "()Ljava/lang/Throwable;"⟩ : Cond) ∈ tB := tB_of (List.mem_append_right _ (List.mem_of_getElem? (i := 289) (by decide +kernel))) rfl
theorem mw_290 : (.instanceMethod ⟨"java/lang/Throwable", "fillInStackTrace", "()Ljava/lang/Throwable;"⟩ : Cond) ∈ tB := tB_of (List.mem_append_right _ (List.mem_of_getElem? (i := 290) (by decide +kernel))) rfl
theorem mw_291 : (.sameMethod "java/lang/Throwable" "java/lang/Throwable" "fillInStackTrace" "()Ljava/lang/Throwable;" : Cond) ∈ tB := tB_of (List.mem_append_right _ (List.mem_of_getElem? (i := 291) (by decide +kernel))) rfl
theorem mw_292 : (.selects "java/lang/IllegalArgumentException" ⟨"java/lang/Throwable", "fillInStackTrace", "()Ljava/lang/Throwable;"⟩ ⟨"java/lang/Throwable", "fillInStackTrace", "()Ljava/lang/Throwable;"⟩ : Cond) ∈ tB := tB_of (List.mem_append_right _ (List.mem_of_getElem? (i := 292) (by decide +kernel))) rfl
theorem mw_293 : (.selects "java/lang/IndexOutOfBoundsException" ⟨"java/lang/Throwable", "fillInStackTrace", "()Ljava/lang/Throwable;"⟩ ⟨"java/lang/Throwable", "fillInStackTrace", "()Ljava/lang/Throwable;"⟩ : Cond) ∈ tB := tB_of (List.mem_append_right _ (List.mem_of_getElem? (i := 293) (by decide +kernel))) rfl
set_option maxRecDepth 100000 in
theorem mw_294 : (.codeSync ⟨"java/lang/Throwable", "fillInStackTrace", "()Ljava/lang/Throwable;"⟩ prog_22_method_18_code 1 (some (FieldType.object "java/lang/Throwable")) : Cond) ∈ tB := tB_of (List.mem_append_right _ (List.mem_of_getElem? (i := 294) rfl)) rfl
theorem mw_295 : (.methodLink "java/lang/Throwable" 202 ⟨"java/lang/Throwable", "fillInStackTrace", "(I)Ljava/lang/Throwable;"⟩ : Cond) ∈ tB := tB_of (List.mem_append_right _ (List.mem_of_getElem? (i := 295) (by decide +kernel))) rfl
theorem mw_297 : (.instanceMethod ⟨"java/lang/Throwable", "fillInStackTrace", "(I)Ljava/lang/Throwable;"⟩ : Cond) ∈ tB := tB_of (List.mem_append_right _ (List.mem_of_getElem? (i := 297) (by decide +kernel))) rfl
theorem mw_298 : (.instantiable "java/lang/Throwable" 6 : Cond) ∈ tB := tB_of (List.mem_append_right _ (List.mem_of_getElem? (i := 298) (by decide +kernel))) rfl
theorem mw_299 : (.native ⟨"java/lang/Throwable", "fillInStackTrace", "(I)Ljava/lang/Throwable;"⟩ : Cond) ∈ tB := tB_of (List.mem_append_right _ (List.mem_of_getElem? (i := 299) (by decide +kernel))) rfl
theorem mw_301 : (.methodLink "CompiledProgram" 45 ⟨"java/lang/IllegalStateException", "<init>", "(Ljava/lang/String;)V"⟩ : Cond) ∈ tB := tB_of (List.mem_append_right _ (List.mem_of_getElem? (i := 301) (by decide +kernel))) rfl
theorem mw_302 : (.instanceMethod ⟨"java/lang/IllegalStateException", "<init>", "(Ljava/lang/String;)V"⟩ : Cond) ∈ tB := tB_of (List.mem_append_right _ (List.mem_of_getElem? (i := 302) (by decide +kernel))) rfl
set_option maxRecDepth 100000 in
theorem mw_303 : (.code ⟨"java/lang/IllegalStateException", "<init>", "(Ljava/lang/String;)V"⟩ prog_15_method_2_code 2 (none : Option FieldType) : Cond) ∈ tB := tB_of (List.mem_append_right _ (List.mem_of_getElem? (i := 303) rfl)) rfl
theorem mw_304 : (.methodLink "java/lang/IllegalStateException" 7 ⟨"java/lang/RuntimeException", "<init>", "(Ljava/lang/String;)V"⟩ : Cond) ∈ tB := tB_of (List.mem_append_right _ (List.mem_of_getElem? (i := 304) (by decide +kernel))) rfl
theorem mw_305 : (.instanceMethod ⟨"java/lang/RuntimeException", "<init>", "(Ljava/lang/String;)V"⟩ : Cond) ∈ tB := tB_of (List.mem_append_right _ (List.mem_of_getElem? (i := 305) (by decide +kernel))) rfl
set_option maxRecDepth 100000 in
theorem mw_306 : (.code ⟨"java/lang/RuntimeException", "<init>", "(Ljava/lang/String;)V"⟩ prog_19_method_2_code 2 (none : Option FieldType) : Cond) ∈ tB := tB_of (List.mem_append_right _ (List.mem_of_getElem? (i := 306) rfl)) rfl
theorem mw_307 : (.methodLink "java/lang/RuntimeException" 7 ⟨"java/lang/Exception", "<init>", "(Ljava/lang/String;)V"⟩ : Cond) ∈ tB := tB_of (List.mem_append_right _ (List.mem_of_getElem? (i := 307) (by decide +kernel))) rfl
theorem mw_308 : (.instanceMethod ⟨"java/lang/Exception", "<init>", "(Ljava/lang/String;)V"⟩ : Cond) ∈ tB := tB_of (List.mem_append_right _ (List.mem_of_getElem? (i := 308) (by decide +kernel))) rfl
set_option maxRecDepth 100000 in
theorem mw_309 : (.code ⟨"java/lang/Exception", "<init>", "(Ljava/lang/String;)V"⟩ prog_13_method_2_code 2 (none : Option FieldType) : Cond) ∈ tB := tB_of (List.mem_append_right _ (List.mem_of_getElem? (i := 309) rfl)) rfl
theorem mw_310 : (.methodLink "java/lang/Exception" 7 ⟨"java/lang/Throwable", "<init>", "(Ljava/lang/String;)V"⟩ : Cond) ∈ tB := tB_of (List.mem_append_right _ (List.mem_of_getElem? (i := 310) (by decide +kernel))) rfl
theorem mw_311 : (.instanceMethod ⟨"java/lang/Throwable", "<init>", "(Ljava/lang/String;)V"⟩ : Cond) ∈ tB := tB_of (List.mem_append_right _ (List.mem_of_getElem? (i := 311) (by decide +kernel))) rfl
set_option maxRecDepth 100000 in
theorem mw_312 : (.code ⟨"java/lang/Throwable", "<init>", "(Ljava/lang/String;)V"⟩ prog_22_method_2_code 2 (none : Option FieldType) : Cond) ∈ tB := tB_of (List.mem_append_right _ (List.mem_of_getElem? (i := 312) rfl)) rfl
theorem mw_314 : (.fieldLink "java/lang/Throwable" 31 "java/lang/Throwable" "detailMessage" "Ljava/lang/String;" : Cond) ∈ tB := tB_of (List.mem_append_right _ (List.mem_of_getElem? (i := 314) (by decide +kernel))) rfl
theorem mw_315 : (.fieldLink "java/lang/Throwable" 7 "java/lang/Throwable" "cause" "Ljava/lang/Throwable;" : Cond) ∈ tB := tB_of (List.mem_append_right _ (List.mem_of_getElem? (i := 315) (by decide +kernel))) rfl
theorem mw_316 : (.fieldLink "java/lang/Throwable" 17 "java/lang/Throwable" "stackTrace" "[Ljava/lang/StackTraceElement;" : Cond) ∈ tB := tB_of (List.mem_append_right _ (List.mem_of_getElem? (i := 316) (by decide +kernel))) rfl
theorem mw_317 : (.fieldLink "java/lang/Throwable" 24 "java/lang/Throwable" "suppressedExceptions" "Ljava/util/List;" : Cond) ∈ tB := tB_of (List.mem_append_right _ (List.mem_of_getElem? (i := 317) (by decide +kernel))) rfl
theorem mw_318 : (.soleField "java/lang/Throwable" "backtrace" : Cond) ∈ tB := tB_of (List.mem_append_right _ (List.mem_of_getElem? (i := 318) (by decide +kernel))) rfl
theorem mw_319 : (.soleField "java/lang/Throwable" "detailMessage" : Cond) ∈ tB := tB_of (List.mem_append_right _ (List.mem_of_getElem? (i := 319) (by decide +kernel))) rfl
theorem mw_320 : (.soleField "java/lang/Throwable" "cause" : Cond) ∈ tB := tB_of (List.mem_append_right _ (List.mem_of_getElem? (i := 320) (by decide +kernel))) rfl
theorem mw_321 : (.soleField "java/lang/Throwable" "stackTrace" : Cond) ∈ tB := tB_of (List.mem_append_right _ (List.mem_of_getElem? (i := 321) (by decide +kernel))) rfl
theorem mw_322 : (.lays "java/lang/IllegalStateException" "java/lang/Throwable" "depth" "I" : Cond) ∈ tB := tB_of (List.mem_append_right _ (List.mem_of_getElem? (i := 322) (by decide +kernel))) rfl
theorem mw_323 : (.soleField "java/lang/Throwable" "depth" : Cond) ∈ tB := tB_of (List.mem_append_right _ (List.mem_of_getElem? (i := 323) (by decide +kernel))) rfl
theorem mw_324 : (.soleField "java/lang/Throwable" "suppressedExceptions" : Cond) ∈ tB := tB_of (List.mem_append_right _ (List.mem_of_getElem? (i := 324) (by decide +kernel))) rfl
theorem mw_325 : (.superclass "java/lang/IllegalStateException" "java/lang/RuntimeException" : Cond) ∈ tB := tB_of (List.mem_append_right _ (List.mem_of_getElem? (i := 325) (by decide +kernel))) rfl
theorem mw_326 : (.methodLink "CompiledProgram" 48 ⟨"CompiledProgram$Tape", "makeRoom", "()V"⟩ : Cond) ∈ tB := tB_of (List.mem_append_right _ (List.mem_of_getElem? (i := 326) (by decide +kernel))) rfl
theorem mw_327 : (.instanceMethod ⟨"CompiledProgram$Tape", "makeRoom", "()V"⟩ : Cond) ∈ tB := tB_of (List.mem_append_right _ (List.mem_of_getElem? (i := 327) (by decide +kernel))) rfl
theorem mw_328 : (.selects "CompiledProgram$Tape" ⟨"CompiledProgram$Tape", "makeRoom", "()V"⟩ ⟨"CompiledProgram$Tape", "makeRoom", "()V"⟩ : Cond) ∈ tB := tB_of (List.mem_append_right _ (List.mem_of_getElem? (i := 328) (by decide +kernel))) rfl
set_option maxRecDepth 100000 in
theorem mw_329 : (.code ⟨"CompiledProgram$Tape", "makeRoom", "()V"⟩ prog_9_method_3_code 1 (none : Option FieldType) : Cond) ∈ tB := tB_of (List.mem_append_right _ (List.mem_of_getElem? (i := 329) rfl)) rfl
theorem mw_330 : (.methodLink "CompiledProgram$Tape" 18 ⟨"java/lang/Math", "min", "(II)I"⟩ : Cond) ∈ tB := tB_of (List.mem_append_right _ (List.mem_of_getElem? (i := 330) (by decide +kernel))) rfl
theorem mw_331 : (.static ⟨"java/lang/Math", "min", "(II)I"⟩ : Cond) ∈ tB := tB_of (List.mem_append_right _ (List.mem_of_getElem? (i := 331) (by decide +kernel))) rfl
set_option maxRecDepth 100000 in
theorem mw_332 : (.code ⟨"java/lang/Math", "min", "(II)I"⟩ prog_18_method_69_code 2 (some FieldType.int) : Cond) ∈ tB := tB_of (List.mem_append_right _ (List.mem_of_getElem? (i := 332) rfl)) rfl
theorem mw_333 : (.methodLink "CompiledProgram$Tape" 24 ⟨"java/util/Arrays", "copyOf", "([BI)[B"⟩ : Cond) ∈ tB := tB_of (List.mem_append_right _ (List.mem_of_getElem? (i := 333) (by decide +kernel))) rfl
theorem mw_334 : (.static ⟨"java/util/Arrays", "copyOf", "([BI)[B"⟩ : Cond) ∈ tB := tB_of (List.mem_append_right _ (List.mem_of_getElem? (i := 334) (by decide +kernel))) rfl
set_option maxRecDepth 100000 in
theorem mw_335 : (.code ⟨"java/util/Arrays", "copyOf", "([BI)[B"⟩ prog_23_method_121_code 3 (some (FieldType.array FieldType.byte)) : Cond) ∈ tB := tB_of (List.mem_append_right _ (List.mem_of_getElem? (i := 335) rfl)) rfl
theorem mw_336 : (.methodLink "java/util/Arrays" 310 ⟨"[B", "clone", "()Ljava/lang/Object;"⟩ : Cond) ∈ tB := tB_of (List.mem_append_right _ (List.mem_of_getElem? (i := 336) (by decide +kernel))) rfl
theorem mw_337 : (.sameMethod "[B" "java/lang/Object" "clone" "()Ljava/lang/Object;" : Cond) ∈ tB := tB_of (List.mem_append_right _ (List.mem_of_getElem? (i := 337) (by decide +kernel))) rfl
theorem mw_338 : (.native ⟨"java/lang/Object", "clone", "()Ljava/lang/Object;"⟩ : Cond) ∈ tB := tB_of (List.mem_append_right _ (List.mem_of_getElem? (i := 338) (by decide +kernel))) rfl
theorem mw_339 : (.instanceMethod ⟨"java/lang/Object", "clone", "()Ljava/lang/Object;"⟩ : Cond) ∈ tB := tB_of (List.mem_append_right _ (List.mem_of_getElem? (i := 339) (by decide +kernel))) rfl
theorem mw_340 : (.selects "[B" ⟨"[B", "clone", "()Ljava/lang/Object;"⟩ ⟨"java/lang/Object", "clone", "()Ljava/lang/Object;"⟩ : Cond) ∈ tB := tB_of (List.mem_append_right _ (List.mem_of_getElem? (i := 340) (by decide +kernel))) rfl
theorem mw_342 : (.classLink "java/util/Arrays" 311 "[B" : Cond) ∈ tB := tB_of (List.mem_append_right _ (List.mem_of_getElem? (i := 342) (by decide +kernel))) rfl
theorem mw_343 : (.methodLink "java/util/Arrays" 304 ⟨"java/lang/Math", "min", "(II)I"⟩ : Cond) ∈ tB := tB_of (List.mem_append_right _ (List.mem_of_getElem? (i := 343) (by decide +kernel))) rfl
theorem mw_344 : (.methodLink "java/util/Arrays" 150 ⟨"java/lang/System", "arraycopy", "(Ljava/lang/Object;ILjava/lang/Object;II)V"⟩ : Cond) ∈ tB := tB_of (List.mem_append_right _ (List.mem_of_getElem? (i := 344) (by decide +kernel))) rfl
theorem mw_345 : (.static ⟨"java/lang/System", "arraycopy", "(Ljava/lang/Object;ILjava/lang/Object;II)V"⟩ : Cond) ∈ tB := tB_of (List.mem_append_right _ (List.mem_of_getElem? (i := 345) (by decide +kernel))) rfl
theorem mw_346 : (.native ⟨"java/lang/System", "arraycopy", "(Ljava/lang/Object;ILjava/lang/Object;II)V"⟩ : Cond) ∈ tB := tB_of (List.mem_append_right _ (List.mem_of_getElem? (i := 346) (by decide +kernel))) rfl
theorem mw_347 : (.methodLink "CompiledProgram" 51 ⟨"CompiledProgram$Tape", "type", "(I)V"⟩ : Cond) ∈ tB := tB_of (List.mem_append_right _ (List.mem_of_getElem? (i := 347) (by decide +kernel))) rfl
theorem mw_348 : (.instanceMethod ⟨"CompiledProgram$Tape", "type", "(I)V"⟩ : Cond) ∈ tB := tB_of (List.mem_append_right _ (List.mem_of_getElem? (i := 348) (by decide +kernel))) rfl
theorem mw_349 : (.selects "CompiledProgram$Tape" ⟨"CompiledProgram$Tape", "type", "(I)V"⟩ ⟨"CompiledProgram$Tape", "type", "(I)V"⟩ : Cond) ∈ tB := tB_of (List.mem_append_right _ (List.mem_of_getElem? (i := 349) (by decide +kernel))) rfl
set_option maxRecDepth 100000 in
theorem mw_350 : (.code ⟨"CompiledProgram$Tape", "type", "(I)V"⟩ prog_9_method_4_code 2 (none : Option FieldType) : Cond) ∈ tB := tB_of (List.mem_append_right _ (List.mem_of_getElem? (i := 350) rfl)) rfl
theorem mw_351 : (.methodLink "CompiledProgramLaw" 57 ⟨"CompiledProgramLaw", "end", "(LCompiledProgram;I)I"⟩ : Cond) ∈ tB := tB_of (List.mem_append_right _ (List.mem_of_getElem? (i := 351) (by decide +kernel))) rfl
theorem mw_352 : (.static ⟨"CompiledProgramLaw", "end", "(LCompiledProgram;I)I"⟩ : Cond) ∈ tB := tB_of (List.mem_append_right _ (List.mem_of_getElem? (i := 352) (by decide +kernel))) rfl
set_option maxRecDepth 100000 in
theorem mw_353 : (.codeWith ⟨"CompiledProgramLaw", "end", "(LCompiledProgram;I)I"⟩ method_4_code 3 (some FieldType.int) [(0, 5, 8, 19)] : Cond) ∈ tB := tB_of (List.mem_append_right _ (List.mem_of_getElem? (i := 353) rfl)) rfl
theorem mw_354 : (.classLink "CompiledProgramLaw" 19 "java/lang/IllegalArgumentException" : Cond) ∈ tB := tB_of (List.mem_append_right _ (List.mem_of_getElem? (i := 354) (by decide +kernel))) rfl
theorem mw_355 : (.methodLink "CompiledProgramLaw" 15 ⟨"CompiledProgram", "end", "(I)V"⟩ : Cond) ∈ tB := tB_of (List.mem_append_right _ (List.mem_of_getElem? (i := 355) (by decide +kernel))) rfl
theorem mw_356 : (.instanceMethod ⟨"CompiledProgram", "end", "(I)V"⟩ : Cond) ∈ tB := tB_of (List.mem_append_right _ (List.mem_of_getElem? (i := 356) (by decide +kernel))) rfl
theorem mw_357 : (.selects "CompiledProgram" ⟨"CompiledProgram", "end", "(I)V"⟩ ⟨"CompiledProgram", "end", "(I)V"⟩ : Cond) ∈ tB := tB_of (List.mem_append_right _ (List.mem_of_getElem? (i := 357) (by decide +kernel))) rfl
set_option maxRecDepth 100000 in
theorem mw_358 : (.code ⟨"CompiledProgram", "end", "(I)V"⟩ prog_1_method_3_code 2 (none : Option FieldType) : Cond) ∈ tB := tB_of (List.mem_append_right _ (List.mem_of_getElem? (i := 358) rfl)) rfl
theorem mw_359 : (.classLink "CompiledProgram" 58 "java/lang/IllegalArgumentException" : Cond) ∈ tB := tB_of (List.mem_append_right _ (List.mem_of_getElem? (i := 359) (by decide +kernel))) rfl
theorem mw_360 : (.instantiable "java/lang/IllegalArgumentException" 6 : Cond) ∈ tB := tB_of (List.mem_append_right _ (List.mem_of_getElem? (i := 360) (by decide +kernel))) rfl
theorem mw_362 : (.selects "java/lang/IllegalArgumentException" ⟨"java/lang/Throwable", "fillInStackTrace", "(I)Ljava/lang/Throwable;"⟩ ⟨"java/lang/Throwable", "fillInStackTrace", "(I)Ljava/lang/Throwable;"⟩ : Cond) ∈ tB := tB_of (List.mem_append_right _ (List.mem_of_getElem? (i := 362) (by decide +kernel))) rfl
theorem mw_363 : (.lays "java/lang/IllegalArgumentException" "java/lang/Throwable" "cause" "Ljava/lang/Throwable;" : Cond) ∈ tB := tB_of (List.mem_append_right _ (List.mem_of_getElem? (i := 363) (by decide +kernel))) rfl
theorem mw_364 : (.lays "java/lang/IllegalArgumentException" "java/lang/Throwable" "stackTrace" "[Ljava/lang/StackTraceElement;" : Cond) ∈ tB := tB_of (List.mem_append_right _ (List.mem_of_getElem? (i := 364) (by decide +kernel))) rfl
theorem mw_365 : (.lays "java/lang/IllegalArgumentException" "java/lang/Throwable" "suppressedExceptions" "Ljava/util/List;" : Cond) ∈ tB := tB_of (List.mem_append_right _ (List.mem_of_getElem? (i := 365) (by decide +kernel))) rfl
theorem mw_366 : (.lays "java/lang/IllegalArgumentException" "java/lang/Throwable" "detailMessage" "Ljava/lang/String;" : Cond) ∈ tB := tB_of (List.mem_append_right _ (List.mem_of_getElem? (i := 366) (by decide +kernel))) rfl
theorem mw_367 : (.lays "java/lang/IllegalArgumentException" "java/lang/Throwable" "backtrace" "Ljava/lang/Object;" : Cond) ∈ tB := tB_of (List.mem_append_right _ (List.mem_of_getElem? (i := 367) (by decide +kernel))) rfl
theorem mw_369 : (.methodLink "CompiledProgram" 62 ⟨"java/lang/IllegalArgumentException", "<init>", "(Ljava/lang/String;)V"⟩ : Cond) ∈ tB := tB_of (List.mem_append_right _ (List.mem_of_getElem? (i := 369) (by decide +kernel))) rfl
theorem mw_370 : (.instanceMethod ⟨"java/lang/IllegalArgumentException", "<init>", "(Ljava/lang/String;)V"⟩ : Cond) ∈ tB := tB_of (List.mem_append_right _ (List.mem_of_getElem? (i := 370) (by decide +kernel))) rfl
set_option maxRecDepth 100000 in
theorem mw_371 : (.code ⟨"java/lang/IllegalArgumentException", "<init>", "(Ljava/lang/String;)V"⟩ prog_14_method_2_code 2 (none : Option FieldType) : Cond) ∈ tB := tB_of (List.mem_append_right _ (List.mem_of_getElem? (i := 371) rfl)) rfl
theorem mw_372 : (.methodLink "java/lang/IllegalArgumentException" 7 ⟨"java/lang/RuntimeException", "<init>", "(Ljava/lang/String;)V"⟩ : Cond) ∈ tB := tB_of (List.mem_append_right _ (List.mem_of_getElem? (i := 372) (by decide +kernel))) rfl
theorem mw_373 : (.lays "java/lang/IllegalArgumentException" "java/lang/Throwable" "depth" "I" : Cond) ∈ tB := tB_of (List.mem_append_right _ (List.mem_of_getElem? (i := 373) (by decide +kernel))) rfl
theorem mw_374 : (.superclass "java/lang/IllegalArgumentException" "java/lang/RuntimeException" : Cond) ∈ tB := tB_of (List.mem_append_right _ (List.mem_of_getElem? (i := 374) (by decide +kernel))) rfl
theorem mw_375 : (.methodLink "CompiledProgramLaw" 71 ⟨"CompiledProgramLaw", "set", "(LCompiledProgram;IJ)I"⟩ : Cond) ∈ tB := tB_of (List.mem_append_right _ (List.mem_of_getElem? (i := 375) (by decide +kernel))) rfl
theorem mw_376 : (.static ⟨"CompiledProgramLaw", "set", "(LCompiledProgram;IJ)I"⟩ : Cond) ∈ tB := tB_of (List.mem_append_right _ (List.mem_of_getElem? (i := 376) (by decide +kernel))) rfl
set_option maxRecDepth 100000 in
theorem mw_377 : (.codeWith ⟨"CompiledProgramLaw", "set", "(LCompiledProgram;IJ)I"⟩ method_5_code 5 (some FieldType.int) [(0, 6, 9, 25)] : Cond) ∈ tB := tB_of (List.mem_append_right _ (List.mem_of_getElem? (i := 377) rfl)) rfl
theorem mw_378 : (.classLink "CompiledProgramLaw" 25 "java/lang/IndexOutOfBoundsException" : Cond) ∈ tB := tB_of (List.mem_append_right _ (List.mem_of_getElem? (i := 378) (by decide +kernel))) rfl
theorem mw_379 : (.methodLink "CompiledProgramLaw" 21 ⟨"CompiledProgram", "set", "(IJ)V"⟩ : Cond) ∈ tB := tB_of (List.mem_append_right _ (List.mem_of_getElem? (i := 379) (by decide +kernel))) rfl
theorem mw_380 : (.instanceMethod ⟨"CompiledProgram", "set", "(IJ)V"⟩ : Cond) ∈ tB := tB_of (List.mem_append_right _ (List.mem_of_getElem? (i := 380) (by decide +kernel))) rfl
theorem mw_381 : (.selects "CompiledProgram" ⟨"CompiledProgram", "set", "(IJ)V"⟩ ⟨"CompiledProgram", "set", "(IJ)V"⟩ : Cond) ∈ tB := tB_of (List.mem_append_right _ (List.mem_of_getElem? (i := 381) (by decide +kernel))) rfl
set_option maxRecDepth 100000 in
theorem mw_382 : (.code ⟨"CompiledProgram", "set", "(IJ)V"⟩ prog_1_method_6_code 4 (none : Option FieldType) : Cond) ∈ tB := tB_of (List.mem_append_right _ (List.mem_of_getElem? (i := 382) rfl)) rfl
theorem mw_383 : (.classLink "CompiledProgram" 80 "java/lang/IndexOutOfBoundsException" : Cond) ∈ tB := tB_of (List.mem_append_right _ (List.mem_of_getElem? (i := 383) (by decide +kernel))) rfl
theorem mw_384 : (.instantiable "java/lang/IndexOutOfBoundsException" 6 : Cond) ∈ tB := tB_of (List.mem_append_right _ (List.mem_of_getElem? (i := 384) (by decide +kernel))) rfl
theorem mw_386 : (.selects "java/lang/IndexOutOfBoundsException" ⟨"java/lang/Throwable", "fillInStackTrace", "(I)Ljava/lang/Throwable;"⟩ ⟨"java/lang/Throwable", "fillInStackTrace", "(I)Ljava/lang/Throwable;"⟩ : Cond) ∈ tB := tB_of (List.mem_append_right _ (List.mem_of_getElem? (i := 386) (by decide +kernel))) rfl
theorem mw_387 : (.lays "java/lang/IndexOutOfBoundsException" "java/lang/Throwable" "cause" "Ljava/lang/Throwable;" : Cond) ∈ tB := tB_of (List.mem_append_right _ (List.mem_of_getElem? (i := 387) (by decide +kernel))) rfl
theorem mw_388 : (.lays "java/lang/IndexOutOfBoundsException" "java/lang/Throwable" "stackTrace" "[Ljava/lang/StackTraceElement;" : Cond) ∈ tB := tB_of (List.mem_append_right _ (List.mem_of_getElem? (i := 388) (by decide +kernel))) rfl
theorem mw_389 : (.lays "java/lang/IndexOutOfBoundsException" "java/lang/Throwable" "suppressedExceptions" "Ljava/util/List;" : Cond) ∈ tB := tB_of (List.mem_append_right _ (List.mem_of_getElem? (i := 389) (by decide +kernel))) rfl
theorem mw_390 : (.lays "java/lang/IndexOutOfBoundsException" "java/lang/Throwable" "detailMessage" "Ljava/lang/String;" : Cond) ∈ tB := tB_of (List.mem_append_right _ (List.mem_of_getElem? (i := 390) (by decide +kernel))) rfl
theorem mw_391 : (.lays "java/lang/IndexOutOfBoundsException" "java/lang/Throwable" "backtrace" "Ljava/lang/Object;" : Cond) ∈ tB := tB_of (List.mem_append_right _ (List.mem_of_getElem? (i := 391) (by decide +kernel))) rfl
theorem mw_393 : (.methodLink "CompiledProgram" 84 ⟨"java/lang/IndexOutOfBoundsException", "<init>", "(Ljava/lang/String;)V"⟩ : Cond) ∈ tB := tB_of (List.mem_append_right _ (List.mem_of_getElem? (i := 393) (by decide +kernel))) rfl
theorem mw_394 : (.instanceMethod ⟨"java/lang/IndexOutOfBoundsException", "<init>", "(Ljava/lang/String;)V"⟩ : Cond) ∈ tB := tB_of (List.mem_append_right _ (List.mem_of_getElem? (i := 394) (by decide +kernel))) rfl
set_option maxRecDepth 100000 in
theorem mw_395 : (.code ⟨"java/lang/IndexOutOfBoundsException", "<init>", "(Ljava/lang/String;)V"⟩ prog_16_method_2_code 2 (none : Option FieldType) : Cond) ∈ tB := tB_of (List.mem_append_right _ (List.mem_of_getElem? (i := 395) rfl)) rfl
theorem mw_396 : (.methodLink "java/lang/IndexOutOfBoundsException" 7 ⟨"java/lang/RuntimeException", "<init>", "(Ljava/lang/String;)V"⟩ : Cond) ∈ tB := tB_of (List.mem_append_right _ (List.mem_of_getElem? (i := 396) (by decide +kernel))) rfl
theorem mw_397 : (.lays "java/lang/IndexOutOfBoundsException" "java/lang/Throwable" "depth" "I" : Cond) ∈ tB := tB_of (List.mem_append_right _ (List.mem_of_getElem? (i := 397) (by decide +kernel))) rfl
theorem mw_398 : (.superclass "java/lang/IndexOutOfBoundsException" "java/lang/RuntimeException" : Cond) ∈ tB := tB_of (List.mem_append_right _ (List.mem_of_getElem? (i := 398) (by decide +kernel))) rfl
theorem mw_399 : (.methodLink "CompiledProgramLaw" 75 ⟨"CompiledProgramLaw", "get", "(LCompiledProgram;I[J)I"⟩ : Cond) ∈ tB := tB_of (List.mem_append_right _ (List.mem_of_getElem? (i := 399) (by decide +kernel))) rfl
theorem mw_400 : (.static ⟨"CompiledProgramLaw", "get", "(LCompiledProgram;I[J)I"⟩ : Cond) ∈ tB := tB_of (List.mem_append_right _ (List.mem_of_getElem? (i := 400) (by decide +kernel))) rfl
set_option maxRecDepth 100000 in
theorem mw_401 : (.codeWith ⟨"CompiledProgramLaw", "get", "(LCompiledProgram;I[J)I"⟩ method_6_code 4 (some FieldType.int) [(0, 8, 11, 25)] : Cond) ∈ tB := tB_of (List.mem_append_right _ (List.mem_of_getElem? (i := 401) rfl)) rfl
theorem mw_402 : (.methodLink "CompiledProgramLaw" 27 ⟨"CompiledProgram", "get", "(I)J"⟩ : Cond) ∈ tB := tB_of (List.mem_append_right _ (List.mem_of_getElem? (i := 402) (by decide +kernel))) rfl
theorem mw_403 : (.instanceMethod ⟨"CompiledProgram", "get", "(I)J"⟩ : Cond) ∈ tB := tB_of (List.mem_append_right _ (List.mem_of_getElem? (i := 403) (by decide +kernel))) rfl
theorem mw_404 : (.selects "CompiledProgram" ⟨"CompiledProgram", "get", "(I)J"⟩ ⟨"CompiledProgram", "get", "(I)J"⟩ : Cond) ∈ tB := tB_of (List.mem_append_right _ (List.mem_of_getElem? (i := 404) (by decide +kernel))) rfl
set_option maxRecDepth 100000 in
theorem mw_405 : (.code ⟨"CompiledProgram", "get", "(I)J"⟩ prog_1_method_7_code 2 (some FieldType.long) : Cond) ∈ tB := tB_of (List.mem_append_right _ (List.mem_of_getElem? (i := 405) rfl)) rfl
theorem mw_406 : (.methodLink "CompiledProgramLaw" 79 ⟨"CompiledProgramLaw", "put", "(LCompiledProgram;JJ)I"⟩ : Cond) ∈ tB := tB_of (List.mem_append_right _ (List.mem_of_getElem? (i := 406) (by decide +kernel))) rfl
theorem mw_407 : (.static ⟨"CompiledProgramLaw", "put", "(LCompiledProgram;JJ)I"⟩ : Cond) ∈ tB := tB_of (List.mem_append_right _ (List.mem_of_getElem? (i := 407) (by decide +kernel))) rfl
set_option maxRecDepth 100000 in
theorem mw_408 : (.codeWith ⟨"CompiledProgramLaw", "put", "(LCompiledProgram;JJ)I"⟩ method_7_code 6 (some FieldType.int) [(0, 6, 9, 25)] : Cond) ∈ tB := tB_of (List.mem_append_right _ (List.mem_of_getElem? (i := 408) rfl)) rfl
theorem mw_409 : (.methodLink "CompiledProgramLaw" 31 ⟨"CompiledProgram", "put", "(JJ)V"⟩ : Cond) ∈ tB := tB_of (List.mem_append_right _ (List.mem_of_getElem? (i := 409) (by decide +kernel))) rfl
theorem mw_410 : (.instanceMethod ⟨"CompiledProgram", "put", "(JJ)V"⟩ : Cond) ∈ tB := tB_of (List.mem_append_right _ (List.mem_of_getElem? (i := 410) (by decide +kernel))) rfl
theorem mw_411 : (.selects "CompiledProgram" ⟨"CompiledProgram", "put", "(JJ)V"⟩ ⟨"CompiledProgram", "put", "(JJ)V"⟩ : Cond) ∈ tB := tB_of (List.mem_append_right _ (List.mem_of_getElem? (i := 411) (by decide +kernel))) rfl
set_option maxRecDepth 100000 in
theorem mw_412 : (.code ⟨"CompiledProgram", "put", "(JJ)V"⟩ prog_1_method_8_code 5 (none : Option FieldType) : Cond) ∈ tB := tB_of (List.mem_append_right _ (List.mem_of_getElem? (i := 412) rfl)) rfl
theorem mw_413 : (.methodLink "CompiledProgram" 93 ⟨"CompiledProgram$Memory", "holds", "(JI)Z"⟩ : Cond) ∈ tB := tB_of (List.mem_append_right _ (List.mem_of_getElem? (i := 413) (by decide +kernel))) rfl
theorem mw_414 : (.instanceMethod ⟨"CompiledProgram$Memory", "holds", "(JI)Z"⟩ : Cond) ∈ tB := tB_of (List.mem_append_right _ (List.mem_of_getElem? (i := 414) (by decide +kernel))) rfl
theorem mw_415 : (.selects "CompiledProgram$Memory" ⟨"CompiledProgram$Memory", "holds", "(JI)Z"⟩ ⟨"CompiledProgram$Memory", "holds", "(JI)Z"⟩ : Cond) ∈ tB := tB_of (List.mem_append_right _ (List.mem_of_getElem? (i := 415) (by decide +kernel))) rfl
set_option maxRecDepth 100000 in
theorem mw_416 : (.code ⟨"CompiledProgram$Memory", "holds", "(JI)Z"⟩ prog_7_method_2_code 6 (some FieldType.boolean) : Cond) ∈ tB := tB_of (List.mem_append_right _ (List.mem_of_getElem? (i := 416) rfl)) rfl
theorem mw_417 : (.constantLong "CompiledProgram$Memory" 13 2147483648 : Cond) ∈ tB := tB_of (List.mem_append_right _ (List.mem_of_getElem? (i := 417) (by decide +kernel))) rfl
theorem mw_419 : (.methodLink "CompiledProgram" 101 ⟨"CompiledProgram$Memory", "write", "(JIJ)V"⟩ : Cond) ∈ tB := tB_of (List.mem_append_right _ (List.mem_of_getElem? (i := 419) (by decide +kernel))) rfl
theorem mw_420 : (.instanceMethod ⟨"CompiledProgram$Memory", "write", "(JIJ)V"⟩ : Cond) ∈ tB := tB_of (List.mem_append_right _ (List.mem_of_getElem? (i := 420) (by decide +kernel))) rfl
theorem mw_421 : (.selects "CompiledProgram$Memory" ⟨"CompiledProgram$Memory", "write", "(JIJ)V"⟩ ⟨"CompiledProgram$Memory", "write", "(JIJ)V"⟩ : Cond) ∈ tB := tB_of (List.mem_append_right _ (List.mem_of_getElem? (i := 421) (by decide +kernel))) rfl
set_option maxRecDepth 100000 in
theorem mw_422 : (.code ⟨"CompiledProgram$Memory", "write", "(JIJ)V"⟩ prog_7_method_4_code 8 (none : Option FieldType) : Cond) ∈ tB := tB_of (List.mem_append_right _ (List.mem_of_getElem? (i := 422) rfl)) rfl
theorem mw_423 : (.methodLink "CompiledProgram$Memory" 15 ⟨"CompiledProgram$Memory", "holds", "(JI)Z"⟩ : Cond) ∈ tB := tB_of (List.mem_append_right _ (List.mem_of_getElem? (i := 423) (by decide +kernel))) rfl
theorem mw_424 : (.methodLink "CompiledProgramLaw" 83 ⟨"CompiledProgramLaw", "word", "(LCompiledProgram;J[J)I"⟩ : Cond) ∈ tB := tB_of (List.mem_append_right _ (List.mem_of_getElem? (i := 424) (by decide +kernel))) rfl
theorem mw_425 : (.static ⟨"CompiledProgramLaw", "word", "(LCompiledProgram;J[J)I"⟩ : Cond) ∈ tB := tB_of (List.mem_append_right _ (List.mem_of_getElem? (i := 425) (by decide +kernel))) rfl
set_option maxRecDepth 100000 in
theorem mw_426 : (.codeWith ⟨"CompiledProgramLaw", "word", "(LCompiledProgram;J[J)I"⟩ method_8_code 5 (some FieldType.int) [(0, 8, 11, 25)] : Cond) ∈ tB := tB_of (List.mem_append_right _ (List.mem_of_getElem? (i := 426) rfl)) rfl
theorem mw_427 : (.methodLink "CompiledProgramLaw" 35 ⟨"CompiledProgram", "word", "(J)J"⟩ : Cond) ∈ tB := tB_of (List.mem_append_right _ (List.mem_of_getElem? (i := 427) (by decide +kernel))) rfl
theorem mw_428 : (.instanceMethod ⟨"CompiledProgram", "word", "(J)J"⟩ : Cond) ∈ tB := tB_of (List.mem_append_right _ (List.mem_of_getElem? (i := 428) (by decide +kernel))) rfl
theorem mw_429 : (.selects "CompiledProgram" ⟨"CompiledProgram", "word", "(J)J"⟩ ⟨"CompiledProgram", "word", "(J)J"⟩ : Cond) ∈ tB := tB_of (List.mem_append_right _ (List.mem_of_getElem? (i := 429) (by decide +kernel))) rfl
set_option maxRecDepth 100000 in
theorem mw_430 : (.code ⟨"CompiledProgram", "word", "(J)J"⟩ prog_1_method_9_code 3 (some FieldType.long) : Cond) ∈ tB := tB_of (List.mem_append_right _ (List.mem_of_getElem? (i := 430) rfl)) rfl
theorem mw_431 : (.methodLink "CompiledProgram" 105 ⟨"CompiledProgram$Memory", "read", "(JI)J"⟩ : Cond) ∈ tB := tB_of (List.mem_append_right _ (List.mem_of_getElem? (i := 431) (by decide +kernel))) rfl
theorem mw_432 : (.instanceMethod ⟨"CompiledProgram$Memory", "read", "(JI)J"⟩ : Cond) ∈ tB := tB_of (List.mem_append_right _ (List.mem_of_getElem? (i := 432) (by decide +kernel))) rfl
theorem mw_433 : (.selects "CompiledProgram$Memory" ⟨"CompiledProgram$Memory", "read", "(JI)J"⟩ ⟨"CompiledProgram$Memory", "read", "(JI)J"⟩ : Cond) ∈ tB := tB_of (List.mem_append_right _ (List.mem_of_getElem? (i := 433) (by decide +kernel))) rfl
set_option maxRecDepth 100000 in
theorem mw_434 : (.code ⟨"CompiledProgram$Memory", "read", "(JI)J"⟩ prog_7_method_3_code 8 (some FieldType.long) : Cond) ∈ tB := tB_of (List.mem_append_right _ (List.mem_of_getElem? (i := 434) rfl)) rfl
theorem mw_435 : (.methodLink "CompiledProgramLaw" 87 ⟨"CompiledProgramLaw", "run", "(LCompiledProgram;I[J)I"⟩ : Cond) ∈ tB := tB_of (List.mem_append_right _ (List.mem_of_getElem? (i := 435) (by decide +kernel))) rfl
theorem mw_436 : (.static ⟨"CompiledProgramLaw", "run", "(LCompiledProgram;I[J)I"⟩ : Cond) ∈ tB := tB_of (List.mem_append_right _ (List.mem_of_getElem? (i := 436) (by decide +kernel))) rfl
set_option maxRecDepth 100000 in
theorem mw_437 : (.codeWith ⟨"CompiledProgramLaw", "run", "(LCompiledProgram;I[J)I"⟩ method_9_code 4 (some FieldType.int) [(0, 9, 12, 19), (0, 9, 15, 13)] : Cond) ∈ tB := tB_of (List.mem_append_right _ (List.mem_of_getElem? (i := 437) rfl)) rfl
theorem mw_438 : (.methodLink "CompiledProgramLaw" 39 ⟨"CompiledProgram", "run", "(I)I"⟩ : Cond) ∈ tB := tB_of (List.mem_append_right _ (List.mem_of_getElem? (i := 438) (by decide +kernel))) rfl
theorem mw_439 : (.instanceMethod ⟨"CompiledProgram", "run", "(I)I"⟩ : Cond) ∈ tB := tB_of (List.mem_append_right _ (List.mem_of_getElem? (i := 439) (by decide +kernel))) rfl
theorem mw_440 : (.selects "CompiledProgram" ⟨"CompiledProgram", "run", "(I)I"⟩ ⟨"CompiledProgram", "run", "(I)I"⟩ : Cond) ∈ tB := tB_of (List.mem_append_right _ (List.mem_of_getElem? (i := 440) (by decide +kernel))) rfl
set_option maxRecDepth 100000 in
theorem mw_441 : (.code ⟨"CompiledProgram", "run", "(I)I"⟩ prog_1_method_10_code 4 (some FieldType.int) : Cond) ∈ tB := tB_of (List.mem_append_right _ (List.mem_of_getElem? (i := 441) rfl)) rfl
theorem mw_442 : (.constant "CompiledProgram" 109 100000 : Cond) ∈ tB := tB_of (List.mem_append_right _ (List.mem_of_getElem? (i := 442) (by decide +kernel))) rfl
theorem mw_445 : (.methodLink "CompiledProgram" 114 ⟨"CompiledProgram$Machine", "follow", "(LCompiledProgram$Program;I)I"⟩ : Cond) ∈ tB := tB_of (List.mem_append_right _ (List.mem_of_getElem? (i := 445) (by decide +kernel))) rfl
theorem mw_446 : (.instanceMethod ⟨"CompiledProgram$Machine", "follow", "(LCompiledProgram$Program;I)I"⟩ : Cond) ∈ tB := tB_of (List.mem_append_right _ (List.mem_of_getElem? (i := 446) (by decide +kernel))) rfl
theorem mw_447 : (.selects "CompiledProgram$Machine" ⟨"CompiledProgram$Machine", "follow", "(LCompiledProgram$Program;I)I"⟩ ⟨"CompiledProgram$Machine", "follow", "(LCompiledProgram$Program;I)I"⟩ : Cond) ∈ tB := tB_of (List.mem_append_right _ (List.mem_of_getElem? (i := 447) (by decide +kernel))) rfl
set_option maxRecDepth 100000 in
theorem mw_448 : (.code ⟨"CompiledProgram$Machine", "follow", "(LCompiledProgram$Program;I)I"⟩ prog_6_method_2_code 5 (some FieldType.int) : Cond) ∈ tB := tB_of (List.mem_append_right _ (List.mem_of_getElem? (i := 448) rfl)) rfl
theorem mw_449 : (.methodLink "CompiledProgram$Machine" 20 ⟨"CompiledProgram$Program", "at", "(I)J"⟩ : Cond) ∈ tB := tB_of (List.mem_append_right _ (List.mem_of_getElem? (i := 449) (by decide +kernel))) rfl
theorem mw_450 : (.methodLink "CompiledProgram$Machine" 26 ⟨"CompiledProgram$Fields", "kind", "(J)I"⟩ : Cond) ∈ tB := tB_of (List.mem_append_right _ (List.mem_of_getElem? (i := 450) (by decide +kernel))) rfl
theorem mw_451 : (.methodLink "CompiledProgram$Machine" 32 ⟨"CompiledProgram$Machine", "takeTwoPlaces", "(JJ)V"⟩ : Cond) ∈ tB := tB_of (List.mem_append_right _ (List.mem_of_getElem? (i := 451) (by decide +kernel))) rfl
theorem mw_452 : (.instanceMethod ⟨"CompiledProgram$Machine", "takeTwoPlaces", "(JJ)V"⟩ : Cond) ∈ tB := tB_of (List.mem_append_right _ (List.mem_of_getElem? (i := 452) (by decide +kernel))) rfl
theorem mw_453 : (.selects "CompiledProgram$Machine" ⟨"CompiledProgram$Machine", "takeTwoPlaces", "(JJ)V"⟩ ⟨"CompiledProgram$Machine", "takeTwoPlaces", "(JJ)V"⟩ : Cond) ∈ tB := tB_of (List.mem_append_right _ (List.mem_of_getElem? (i := 453) (by decide +kernel))) rfl
set_option maxRecDepth 100000 in
theorem mw_454 : (.code ⟨"CompiledProgram$Machine", "takeTwoPlaces", "(JJ)V"⟩ prog_6_method_6_code 7 (none : Option FieldType) : Cond) ∈ tB := tB_of (List.mem_append_right _ (List.mem_of_getElem? (i := 454) rfl)) rfl
theorem mw_455 : (.methodLink "CompiledProgram$Machine" 40 ⟨"CompiledProgram$Fields", "immediate", "(J)I"⟩ : Cond) ∈ tB := tB_of (List.mem_append_right _ (List.mem_of_getElem? (i := 455) (by decide +kernel))) rfl
theorem mw_456 : (.methodLink "CompiledProgram$Machine" 61 ⟨"CompiledProgram$Fields", "target", "(J)I"⟩ : Cond) ∈ tB := tB_of (List.mem_append_right _ (List.mem_of_getElem? (i := 456) (by decide +kernel))) rfl
theorem mw_457 : (.methodLink "CompiledProgram$Machine" 73 ⟨"CompiledProgram$Arithmetic", "lowest", "(JI)J"⟩ : Cond) ∈ tB := tB_of (List.mem_append_right _ (List.mem_of_getElem? (i := 457) (by decide +kernel))) rfl
theorem mw_458 : (.static ⟨"CompiledProgram$Arithmetic", "lowest", "(JI)J"⟩ : Cond) ∈ tB := tB_of (List.mem_append_right _ (List.mem_of_getElem? (i := 458) (by decide +kernel))) rfl
set_option maxRecDepth 100000 in
theorem mw_459 : (.code ⟨"CompiledProgram$Arithmetic", "lowest", "(JI)J"⟩ prog_2_method_7_code 3 (some FieldType.long) : Cond) ∈ tB := tB_of (List.mem_append_right _ (List.mem_of_getElem? (i := 459) rfl)) rfl
theorem mw_460 : (.methodLink "CompiledProgram$Machine" 36 ⟨"CompiledProgram$Machine", "read", "(J)Z"⟩ : Cond) ∈ tB := tB_of (List.mem_append_right _ (List.mem_of_getElem? (i := 460) (by decide +kernel))) rfl
theorem mw_461 : (.instanceMethod ⟨"CompiledProgram$Machine", "read", "(J)Z"⟩ : Cond) ∈ tB := tB_of (List.mem_append_right _ (List.mem_of_getElem? (i := 461) (by decide +kernel))) rfl
theorem mw_462 : (.selects "CompiledProgram$Machine" ⟨"CompiledProgram$Machine", "read", "(J)Z"⟩ ⟨"CompiledProgram$Machine", "read", "(J)Z"⟩ : Cond) ∈ tB := tB_of (List.mem_append_right _ (List.mem_of_getElem? (i := 462) (by decide +kernel))) rfl
set_option maxRecDepth 100000 in
theorem mw_463 : (.code ⟨"CompiledProgram$Machine", "read", "(J)Z"⟩ prog_6_method_7_code 8 (some FieldType.boolean) : Cond) ∈ tB := tB_of (List.mem_append_right _ (List.mem_of_getElem? (i := 463) rfl)) rfl
theorem mw_464 : (.methodLink "CompiledProgram$Machine" 79 ⟨"CompiledProgram$Fields", "size", "(J)I"⟩ : Cond) ∈ tB := tB_of (List.mem_append_right _ (List.mem_of_getElem? (i := 464) (by decide +kernel))) rfl
theorem mw_465 : (.methodLink "CompiledProgram$Machine" 53 ⟨"CompiledProgram$Machine", "y", "(J)J"⟩ : Cond) ∈ tB := tB_of (List.mem_append_right _ (List.mem_of_getElem? (i := 465) (by decide +kernel))) rfl
theorem mw_466 : (.instanceMethod ⟨"CompiledProgram$Machine", "y", "(J)J"⟩ : Cond) ∈ tB := tB_of (List.mem_append_right _ (List.mem_of_getElem? (i := 466) (by decide +kernel))) rfl
theorem mw_467 : (.selects "CompiledProgram$Machine" ⟨"CompiledProgram$Machine", "y", "(J)J"⟩ ⟨"CompiledProgram$Machine", "y", "(J)J"⟩ : Cond) ∈ tB := tB_of (List.mem_append_right _ (List.mem_of_getElem? (i := 467) (by decide +kernel))) rfl
set_option maxRecDepth 100000 in
theorem mw_468 : (.code ⟨"CompiledProgram$Machine", "y", "(J)J"⟩ prog_6_method_4_code 3 (some FieldType.long) : Cond) ∈ tB := tB_of (List.mem_append_right _ (List.mem_of_getElem? (i := 468) rfl)) rfl
theorem mw_469 : (.methodLink "CompiledProgram$Machine" 67 ⟨"CompiledProgram$Fields", "source", "(J)I"⟩ : Cond) ∈ tB := tB_of (List.mem_append_right _ (List.mem_of_getElem? (i := 469) (by decide +kernel))) rfl
theorem mw_470 : (.methodLink "CompiledProgram$Machine" 82 ⟨"CompiledProgram$Fields", "offset", "(J)I"⟩ : Cond) ∈ tB := tB_of (List.mem_append_right _ (List.mem_of_getElem? (i := 470) (by decide +kernel))) rfl
theorem mw_471 : (.methodLink "CompiledProgram$Machine" 85 ⟨"CompiledProgram$Memory", "holds", "(JI)Z"⟩ : Cond) ∈ tB := tB_of (List.mem_append_right _ (List.mem_of_getElem? (i := 471) (by decide +kernel))) rfl
theorem mw_472 : (.methodLink "CompiledProgram$Machine" 89 ⟨"CompiledProgram$Memory", "read", "(JI)J"⟩ : Cond) ∈ tB := tB_of (List.mem_append_right _ (List.mem_of_getElem? (i := 472) (by decide +kernel))) rfl
theorem mw_473 : (.methodLink "CompiledProgram$Machine" 47 ⟨"CompiledProgram$Fields", "mode", "(J)I"⟩ : Cond) ∈ tB := tB_of (List.mem_append_right _ (List.mem_of_getElem? (i := 473) (by decide +kernel))) rfl
theorem mw_474 : (.methodLink "CompiledProgram$Machine" 91 ⟨"CompiledProgram$Arithmetic", "signed", "(JI)J"⟩ : Cond) ∈ tB := tB_of (List.mem_append_right _ (List.mem_of_getElem? (i := 474) (by decide +kernel))) rfl
theorem mw_475 : (.static ⟨"CompiledProgram$Arithmetic", "signed", "(JI)J"⟩ : Cond) ∈ tB := tB_of (List.mem_append_right _ (List.mem_of_getElem? (i := 475) (by decide +kernel))) rfl
set_option maxRecDepth 100000 in
theorem mw_476 : (.code ⟨"CompiledProgram$Arithmetic", "signed", "(JI)J"⟩ prog_2_method_8_code 3 (some FieldType.long) : Cond) ∈ tB := tB_of (List.mem_append_right _ (List.mem_of_getElem? (i := 476) rfl)) rfl
theorem mw_477 : (.methodLink "CompiledProgram$Machine" 43 ⟨"CompiledProgram$Machine", "write", "(JJ)Z"⟩ : Cond) ∈ tB := tB_of (List.mem_append_right _ (List.mem_of_getElem? (i := 477) (by decide +kernel))) rfl
theorem mw_478 : (.instanceMethod ⟨"CompiledProgram$Machine", "write", "(JJ)Z"⟩ : Cond) ∈ tB := tB_of (List.mem_append_right _ (List.mem_of_getElem? (i := 478) (by decide +kernel))) rfl
theorem mw_479 : (.selects "CompiledProgram$Machine" ⟨"CompiledProgram$Machine", "write", "(JJ)Z"⟩ ⟨"CompiledProgram$Machine", "write", "(JJ)Z"⟩ : Cond) ∈ tB := tB_of (List.mem_append_right _ (List.mem_of_getElem? (i := 479) (by decide +kernel))) rfl
set_option maxRecDepth 100000 in
theorem mw_480 : (.code ⟨"CompiledProgram$Machine", "write", "(JJ)Z"⟩ prog_6_method_8_code 8 (some FieldType.boolean) : Cond) ∈ tB := tB_of (List.mem_append_right _ (List.mem_of_getElem? (i := 480) rfl)) rfl
theorem mw_481 : (.methodLink "CompiledProgram$Machine" 94 ⟨"CompiledProgram$Machine", "x", "(J)J"⟩ : Cond) ∈ tB := tB_of (List.mem_append_right _ (List.mem_of_getElem? (i := 481) (by decide +kernel))) rfl
theorem mw_482 : (.instanceMethod ⟨"CompiledProgram$Machine", "x", "(J)J"⟩ : Cond) ∈ tB := tB_of (List.mem_append_right _ (List.mem_of_getElem? (i := 482) (by decide +kernel))) rfl
theorem mw_483 : (.selects "CompiledProgram$Machine" ⟨"CompiledProgram$Machine", "x", "(J)J"⟩ ⟨"CompiledProgram$Machine", "x", "(J)J"⟩ : Cond) ∈ tB := tB_of (List.mem_append_right _ (List.mem_of_getElem? (i := 483) (by decide +kernel))) rfl
set_option maxRecDepth 100000 in
theorem mw_484 : (.code ⟨"CompiledProgram$Machine", "x", "(J)J"⟩ prog_6_method_3_code 3 (some FieldType.long) : Cond) ∈ tB := tB_of (List.mem_append_right _ (List.mem_of_getElem? (i := 484) rfl)) rfl
theorem mw_485 : (.methodLink "CompiledProgram$Machine" 97 ⟨"CompiledProgram$Memory", "write", "(JIJ)V"⟩ : Cond) ∈ tB := tB_of (List.mem_append_right _ (List.mem_of_getElem? (i := 485) (by decide +kernel))) rfl
theorem mw_486 : (.methodLink "CompiledProgram$Machine" 50 ⟨"CompiledProgram$Machine", "exchange", "(J)Z"⟩ : Cond) ∈ tB := tB_of (List.mem_append_right _ (List.mem_of_getElem? (i := 486) (by decide +kernel))) rfl
theorem mw_487 : (.instanceMethod ⟨"CompiledProgram$Machine", "exchange", "(J)Z"⟩ : Cond) ∈ tB := tB_of (List.mem_append_right _ (List.mem_of_getElem? (i := 487) (by decide +kernel))) rfl
theorem mw_488 : (.selects "CompiledProgram$Machine" ⟨"CompiledProgram$Machine", "exchange", "(J)Z"⟩ ⟨"CompiledProgram$Machine", "exchange", "(J)Z"⟩ : Cond) ∈ tB := tB_of (List.mem_append_right _ (List.mem_of_getElem? (i := 488) (by decide +kernel))) rfl
set_option maxRecDepth 100000 in
theorem mw_489 : (.code ⟨"CompiledProgram$Machine", "exchange", "(J)Z"⟩ prog_6_method_9_code 10 (some FieldType.boolean) : Cond) ∈ tB := tB_of (List.mem_append_right _ (List.mem_of_getElem? (i := 489) rfl)) rfl
theorem mw_490 : (.methodLink "CompiledProgram$Machine" 100 ⟨"CompiledProgram$Exchange", "become", "(IJJZ)J"⟩ : Cond) ∈ tB := tB_of (List.mem_append_right _ (List.mem_of_getElem? (i := 490) (by decide +kernel))) rfl
theorem mw_491 : (.static ⟨"CompiledProgram$Exchange", "become", "(IJJZ)J"⟩ : Cond) ∈ tB := tB_of (List.mem_append_right _ (List.mem_of_getElem? (i := 491) (by decide +kernel))) rfl
set_option maxRecDepth 100000 in
theorem mw_492 : (.code ⟨"CompiledProgram$Exchange", "become", "(IJJZ)J"⟩ prog_3_method_4_code 6 (some FieldType.long) : Cond) ∈ tB := tB_of (List.mem_append_right _ (List.mem_of_getElem? (i := 492) rfl)) rfl
theorem mw_493 : (.methodLink "CompiledProgram$Machine" 106 ⟨"CompiledProgram$Exchange", "changesSource", "(I)Z"⟩ : Cond) ∈ tB := tB_of (List.mem_append_right _ (List.mem_of_getElem? (i := 493) (by decide +kernel))) rfl
theorem mw_494 : (.methodLink "CompiledProgram$Machine" 57 ⟨"CompiledProgram$Machine", "jump", "(IJ)I"⟩ : Cond) ∈ tB := tB_of (List.mem_append_right _ (List.mem_of_getElem? (i := 494) (by decide +kernel))) rfl
theorem mw_495 : (.instanceMethod ⟨"CompiledProgram$Machine", "jump", "(IJ)I"⟩ : Cond) ∈ tB := tB_of (List.mem_append_right _ (List.mem_of_getElem? (i := 495) (by decide +kernel))) rfl
theorem mw_496 : (.selects "CompiledProgram$Machine" ⟨"CompiledProgram$Machine", "jump", "(IJ)I"⟩ ⟨"CompiledProgram$Machine", "jump", "(IJ)I"⟩ : Cond) ∈ tB := tB_of (List.mem_append_right _ (List.mem_of_getElem? (i := 496) (by decide +kernel))) rfl
set_option maxRecDepth 100000 in
theorem mw_497 : (.code ⟨"CompiledProgram$Machine", "jump", "(IJ)I"⟩ prog_6_method_10_code 4 (some FieldType.int) : Cond) ∈ tB := tB_of (List.mem_append_right _ (List.mem_of_getElem? (i := 497) rfl)) rfl
theorem mw_498 : (.methodLink "CompiledProgram$Machine" 110 ⟨"CompiledProgram$Fields", "isExit", "(J)Z"⟩ : Cond) ∈ tB := tB_of (List.mem_append_right _ (List.mem_of_getElem? (i := 498) (by decide +kernel))) rfl
theorem mw_499 : (.methodLink "CompiledProgram$Machine" 113 ⟨"CompiledProgram$Fields", "isCall", "(J)Z"⟩ : Cond) ∈ tB := tB_of (List.mem_append_right _ (List.mem_of_getElem? (i := 499) (by decide +kernel))) rfl
theorem mw_500 : (.static ⟨"CompiledProgram$Fields", "isCall", "(J)Z"⟩ : Cond) ∈ tB := tB_of (List.mem_append_right _ (List.mem_of_getElem? (i := 500) (by decide +kernel))) rfl
set_option maxRecDepth 100000 in
theorem mw_501 : (.code ⟨"CompiledProgram$Fields", "isCall", "(J)Z"⟩ prog_4_method_14_code 2 (some FieldType.boolean) : Cond) ∈ tB := tB_of (List.mem_append_right _ (List.mem_of_getElem? (i := 501) rfl)) rfl
theorem mw_502 : (.methodLink "CompiledProgram$Machine" 116 ⟨"CompiledProgram$Machine", "answerCall", "(I)V"⟩ : Cond) ∈ tB := tB_of (List.mem_append_right _ (List.mem_of_getElem? (i := 502) (by decide +kernel))) rfl
theorem mw_503 : (.instanceMethod ⟨"CompiledProgram$Machine", "answerCall", "(I)V"⟩ : Cond) ∈ tB := tB_of (List.mem_append_right _ (List.mem_of_getElem? (i := 503) (by decide +kernel))) rfl
theorem mw_504 : (.selects "CompiledProgram$Machine" ⟨"CompiledProgram$Machine", "answerCall", "(I)V"⟩ ⟨"CompiledProgram$Machine", "answerCall", "(I)V"⟩ : Cond) ∈ tB := tB_of (List.mem_append_right _ (List.mem_of_getElem? (i := 504) (by decide +kernel))) rfl
set_option maxRecDepth 100000 in
theorem mw_505 : (.code ⟨"CompiledProgram$Machine", "answerCall", "(I)V"⟩ prog_6_method_12_code 5 (none : Option FieldType) : Cond) ∈ tB := tB_of (List.mem_append_right _ (List.mem_of_getElem? (i := 505) rfl)) rfl
theorem mw_506 : (.constantLong "CompiledProgram$Machine" 140 31 : Cond) ∈ tB := tB_of (List.mem_append_right _ (List.mem_of_getElem? (i := 506) (by decide +kernel))) rfl
theorem mw_507 : (.methodLink "CompiledProgram$Machine" 120 ⟨"CompiledProgram$Fields", "jumpsAlways", "(J)Z"⟩ : Cond) ∈ tB := tB_of (List.mem_append_right _ (List.mem_of_getElem? (i := 507) (by decide +kernel))) rfl
theorem mw_508 : (.methodLink "CompiledProgram$Machine" 123 ⟨"CompiledProgram$Machine", "takesJump", "(J)Z"⟩ : Cond) ∈ tB := tB_of (List.mem_append_right _ (List.mem_of_getElem? (i := 508) (by decide +kernel))) rfl
theorem mw_509 : (.instanceMethod ⟨"CompiledProgram$Machine", "takesJump", "(J)Z"⟩ : Cond) ∈ tB := tB_of (List.mem_append_right _ (List.mem_of_getElem? (i := 509) (by decide +kernel))) rfl
theorem mw_510 : (.selects "CompiledProgram$Machine" ⟨"CompiledProgram$Machine", "takesJump", "(J)Z"⟩ ⟨"CompiledProgram$Machine", "takesJump", "(J)Z"⟩ : Cond) ∈ tB := tB_of (List.mem_append_right _ (List.mem_of_getElem? (i := 510) (by decide +kernel))) rfl
set_option maxRecDepth 100000 in
theorem mw_511 : (.code ⟨"CompiledProgram$Machine", "takesJump", "(J)Z"⟩ prog_6_method_11_code 7 (some FieldType.boolean) : Cond) ∈ tB := tB_of (List.mem_append_right _ (List.mem_of_getElem? (i := 511) rfl)) rfl
theorem mw_512 : (.methodLink "CompiledProgram$Machine" 130 ⟨"CompiledProgram$Machine", "operand", "(J)J"⟩ : Cond) ∈ tB := tB_of (List.mem_append_right _ (List.mem_of_getElem? (i := 512) (by decide +kernel))) rfl
theorem mw_513 : (.instanceMethod ⟨"CompiledProgram$Machine", "operand", "(J)J"⟩ : Cond) ∈ tB := tB_of (List.mem_append_right _ (List.mem_of_getElem? (i := 513) (by decide +kernel))) rfl
theorem mw_514 : (.selects "CompiledProgram$Machine" ⟨"CompiledProgram$Machine", "operand", "(J)J"⟩ ⟨"CompiledProgram$Machine", "operand", "(J)J"⟩ : Cond) ∈ tB := tB_of (List.mem_append_right _ (List.mem_of_getElem? (i := 514) (by decide +kernel))) rfl
set_option maxRecDepth 100000 in
theorem mw_515 : (.code ⟨"CompiledProgram$Machine", "operand", "(J)J"⟩ prog_6_method_5_code 3 (some FieldType.long) : Cond) ∈ tB := tB_of (List.mem_append_right _ (List.mem_of_getElem? (i := 515) rfl)) rfl
theorem mw_516 : (.methodLink "CompiledProgram$Machine" 70 ⟨"CompiledProgram$Fields", "usesSource", "(J)Z"⟩ : Cond) ∈ tB := tB_of (List.mem_append_right _ (List.mem_of_getElem? (i := 516) (by decide +kernel))) rfl
theorem mw_517 : (.methodLink "CompiledProgram$Machine" 133 ⟨"CompiledProgram$Fields", "operation", "(J)I"⟩ : Cond) ∈ tB := tB_of (List.mem_append_right _ (List.mem_of_getElem? (i := 517) (by decide +kernel))) rfl
theorem mw_518 : (.methodLink "CompiledProgram$Machine" 136 ⟨"CompiledProgram$Arithmetic", "isTaken", "(IJJ)Z"⟩ : Cond) ∈ tB := tB_of (List.mem_append_right _ (List.mem_of_getElem? (i := 518) (by decide +kernel))) rfl
theorem mw_519 : (.static ⟨"CompiledProgram$Arithmetic", "isTaken", "(IJJ)Z"⟩ : Cond) ∈ tB := tB_of (List.mem_append_right _ (List.mem_of_getElem? (i := 519) (by decide +kernel))) rfl
set_option maxRecDepth 100000 in
theorem mw_520 : (.code ⟨"CompiledProgram$Arithmetic", "isTaken", "(IJJ)Z"⟩ prog_2_method_10_code 9 (some FieldType.boolean) : Cond) ∈ tB := tB_of (List.mem_append_right _ (List.mem_of_getElem? (i := 520) rfl)) rfl
theorem mw_521 : (.constantLong "CompiledProgram$Arithmetic" 33 (-9223372036854775808) : Cond) ∈ tB := tB_of (List.mem_append_right _ (List.mem_of_getElem? (i := 521) (by decide +kernel))) rfl
theorem mw_522 : (.methodLink "CompiledProgram$Machine" 126 ⟨"CompiledProgram$Fields", "jumpFrom", "(IJ)J"⟩ : Cond) ∈ tB := tB_of (List.mem_append_right _ (List.mem_of_getElem? (i := 522) (by decide +kernel))) rfl
theorem mw_523 : (.methodLink "CompiledProgram$Machine" 64 ⟨"CompiledProgram$Machine", "computed", "(J)J"⟩ : Cond) ∈ tB := tB_of (List.mem_append_right _ (List.mem_of_getElem? (i := 523) (by decide +kernel))) rfl
theorem mw_524 : (.instanceMethod ⟨"CompiledProgram$Machine", "computed", "(J)J"⟩ : Cond) ∈ tB := tB_of (List.mem_append_right _ (List.mem_of_getElem? (i := 524) (by decide +kernel))) rfl
theorem mw_525 : (.selects "CompiledProgram$Machine" ⟨"CompiledProgram$Machine", "computed", "(J)J"⟩ ⟨"CompiledProgram$Machine", "computed", "(J)J"⟩ : Cond) ∈ tB := tB_of (List.mem_append_right _ (List.mem_of_getElem? (i := 525) (by decide +kernel))) rfl
set_option maxRecDepth 100000 in
theorem mw_526 : (.code ⟨"CompiledProgram$Machine", "computed", "(J)J"⟩ prog_6_method_13_code 4 (some FieldType.long) : Cond) ∈ tB := tB_of (List.mem_append_right _ (List.mem_of_getElem? (i := 526) rfl)) rfl
theorem mw_527 : (.methodLink "CompiledProgram$Machine" 142 ⟨"CompiledProgram$Machine", "turnedOrCut", "(J)J"⟩ : Cond) ∈ tB := tB_of (List.mem_append_right _ (List.mem_of_getElem? (i := 527) (by decide +kernel))) rfl
theorem mw_528 : (.instanceMethod ⟨"CompiledProgram$Machine", "turnedOrCut", "(J)J"⟩ : Cond) ∈ tB := tB_of (List.mem_append_right _ (List.mem_of_getElem? (i := 528) (by decide +kernel))) rfl
theorem mw_529 : (.selects "CompiledProgram$Machine" ⟨"CompiledProgram$Machine", "turnedOrCut", "(J)J"⟩ ⟨"CompiledProgram$Machine", "turnedOrCut", "(J)J"⟩ : Cond) ∈ tB := tB_of (List.mem_append_right _ (List.mem_of_getElem? (i := 529) (by decide +kernel))) rfl
set_option maxRecDepth 100000 in
theorem mw_530 : (.code ⟨"CompiledProgram$Machine", "turnedOrCut", "(J)J"⟩ prog_6_method_14_code 5 (some FieldType.long) : Cond) ∈ tB := tB_of (List.mem_append_right _ (List.mem_of_getElem? (i := 530) rfl)) rfl
theorem mw_531 : (.methodLink "CompiledProgram$Machine" 153 ⟨"CompiledProgram$Arithmetic", "turned", "(JI)J"⟩ : Cond) ∈ tB := tB_of (List.mem_append_right _ (List.mem_of_getElem? (i := 531) (by decide +kernel))) rfl
theorem mw_532 : (.static ⟨"CompiledProgram$Arithmetic", "turned", "(JI)J"⟩ : Cond) ∈ tB := tB_of (List.mem_append_right _ (List.mem_of_getElem? (i := 532) (by decide +kernel))) rfl
set_option maxRecDepth 100000 in
theorem mw_533 : (.code ⟨"CompiledProgram$Arithmetic", "turned", "(JI)J"⟩ prog_2_method_9_code 3 (some FieldType.long) : Cond) ∈ tB := tB_of (List.mem_append_right _ (List.mem_of_getElem? (i := 533) rfl)) rfl
theorem mw_534 : (.methodLink "CompiledProgram$Arithmetic" 35 ⟨"java/lang/Long", "reverseBytes", "(J)J"⟩ : Cond) ∈ tB := tB_of (List.mem_append_right _ (List.mem_of_getElem? (i := 534) (by decide +kernel))) rfl
theorem mw_535 : (.static ⟨"java/lang/Long", "reverseBytes", "(J)J"⟩ : Cond) ∈ tB := tB_of (List.mem_append_right _ (List.mem_of_getElem? (i := 535) (by decide +kernel))) rfl
set_option maxRecDepth 100000 in
theorem mw_536 : (.code ⟨"java/lang/Long", "reverseBytes", "(J)J"⟩ prog_17_method_58_code 2 (some FieldType.long) : Cond) ∈ tB := tB_of (List.mem_append_right _ (List.mem_of_getElem? (i := 536) rfl)) rfl
theorem mw_537 : (.constantLong "java/lang/Long" 327 71777214294589695 : Cond) ∈ tB := tB_of (List.mem_append_right _ (List.mem_of_getElem? (i := 537) (by decide +kernel))) rfl
theorem mw_538 : (.constantLong "java/lang/Long" 329 4294901760 : Cond) ∈ tB := tB_of (List.mem_append_right _ (List.mem_of_getElem? (i := 538) (by decide +kernel))) rfl
theorem mw_539 : (.methodLink "CompiledProgram$Machine" 145 ⟨"CompiledProgram$Arithmetic", "wide", "(IIJJ)J"⟩ : Cond) ∈ tB := tB_of (List.mem_append_right _ (List.mem_of_getElem? (i := 539) (by decide +kernel))) rfl
theorem mw_540 : (.static ⟨"CompiledProgram$Arithmetic", "wide", "(IIJJ)J"⟩ : Cond) ∈ tB := tB_of (List.mem_append_right _ (List.mem_of_getElem? (i := 540) (by decide +kernel))) rfl
set_option maxRecDepth 100000 in
theorem mw_541 : (.code ⟨"CompiledProgram$Arithmetic", "wide", "(IIJJ)J"⟩ prog_2_method_2_code 6 (some FieldType.long) : Cond) ∈ tB := tB_of (List.mem_append_right _ (List.mem_of_getElem? (i := 541) rfl)) rfl
theorem mw_542 : (.methodLink "CompiledProgram$Arithmetic" 7 ⟨"CompiledProgram$Arithmetic", "quotient", "(ZJJ)J"⟩ : Cond) ∈ tB := tB_of (List.mem_append_right _ (List.mem_of_getElem? (i := 542) (by decide +kernel))) rfl
theorem mw_543 : (.static ⟨"CompiledProgram$Arithmetic", "quotient", "(ZJJ)J"⟩ : Cond) ∈ tB := tB_of (List.mem_append_right _ (List.mem_of_getElem? (i := 543) (by decide +kernel))) rfl
set_option maxRecDepth 100000 in
theorem mw_544 : (.code ⟨"CompiledProgram$Arithmetic", "quotient", "(ZJJ)J"⟩ prog_2_method_4_code 5 (some FieldType.long) : Cond) ∈ tB := tB_of (List.mem_append_right _ (List.mem_of_getElem? (i := 544) rfl)) rfl
theorem mw_545 : (.methodLink "CompiledProgram$Arithmetic" 29 ⟨"CompiledProgram$Arithmetic", "unsignedQuotient", "(JJ)J"⟩ : Cond) ∈ tB := tB_of (List.mem_append_right _ (List.mem_of_getElem? (i := 545) (by decide +kernel))) rfl
theorem mw_546 : (.static ⟨"CompiledProgram$Arithmetic", "unsignedQuotient", "(JJ)J"⟩ : Cond) ∈ tB := tB_of (List.mem_append_right _ (List.mem_of_getElem? (i := 546) (by decide +kernel))) rfl
set_option maxRecDepth 100000 in
theorem mw_547 : (.code ⟨"CompiledProgram$Arithmetic", "unsignedQuotient", "(JJ)J"⟩ prog_2_method_5_code 8 (some FieldType.long) : Cond) ∈ tB := tB_of (List.mem_append_right _ (List.mem_of_getElem? (i := 547) rfl)) rfl
theorem mw_548 : (.constantLong "CompiledProgram$Arithmetic" 13 63 : Cond) ∈ tB := tB_of (List.mem_append_right _ (List.mem_of_getElem? (i := 548) (by decide +kernel))) rfl
theorem mw_549 : (.methodLink "CompiledProgram$Arithmetic" 15 ⟨"CompiledProgram$Arithmetic", "rest", "(ZJJ)J"⟩ : Cond) ∈ tB := tB_of (List.mem_append_right _ (List.mem_of_getElem? (i := 549) (by decide +kernel))) rfl
theorem mw_550 : (.static ⟨"CompiledProgram$Arithmetic", "rest", "(ZJJ)J"⟩ : Cond) ∈ tB := tB_of (List.mem_append_right _ (List.mem_of_getElem? (i := 550) (by decide +kernel))) rfl
set_option maxRecDepth 100000 in
theorem mw_551 : (.code ⟨"CompiledProgram$Arithmetic", "rest", "(ZJJ)J"⟩ prog_2_method_6_code 5 (some FieldType.long) : Cond) ∈ tB := tB_of (List.mem_append_right _ (List.mem_of_getElem? (i := 551) rfl)) rfl
theorem mw_552 : (.methodLink "CompiledProgram$Arithmetic" 18 ⟨"CompiledProgram$Arithmetic", "signed", "(JI)J"⟩ : Cond) ∈ tB := tB_of (List.mem_append_right _ (List.mem_of_getElem? (i := 552) (by decide +kernel))) rfl
theorem mw_553 : (.methodLink "CompiledProgram$Machine" 149 ⟨"CompiledProgram$Arithmetic", "narrow", "(IIII)J"⟩ : Cond) ∈ tB := tB_of (List.mem_append_right _ (List.mem_of_getElem? (i := 553) (by decide +kernel))) rfl
theorem mw_554 : (.static ⟨"CompiledProgram$Arithmetic", "narrow", "(IIII)J"⟩ : Cond) ∈ tB := tB_of (List.mem_append_right _ (List.mem_of_getElem? (i := 554) (by decide +kernel))) rfl
set_option maxRecDepth 100000 in
theorem mw_555 : (.code ⟨"CompiledProgram$Arithmetic", "narrow", "(IIII)J"⟩ prog_2_method_3_code 4 (some FieldType.long) : Cond) ∈ tB := tB_of (List.mem_append_right _ (List.mem_of_getElem? (i := 555) rfl)) rfl
theorem mw_556 : (.methodLink "CompiledProgram$Arithmetic" 22 ⟨"CompiledProgram$Arithmetic", "lowest", "(JI)J"⟩ : Cond) ∈ tB := tB_of (List.mem_append_right _ (List.mem_of_getElem? (i := 556) (by decide +kernel))) rfl
theorem mw_557 : (.methodLink "CompiledProgram$Arithmetic" 25 ⟨"CompiledProgram$Arithmetic", "wide", "(IIJJ)J"⟩ : Cond) ∈ tB := tB_of (List.mem_append_right _ (List.mem_of_getElem? (i := 557) (by decide +kernel))) rfl
theorem mw_558 : (.classLink "CompiledProgramLaw" 44 "CompiledProgramModel" : Cond) ∈ tB := tB_of (List.mem_append_right _ (List.mem_of_getElem? (i := 558) (by decide +kernel))) rfl
theorem mw_559 : (.instantiable "CompiledProgramModel" 15 : Cond) ∈ tB := tB_of (List.mem_append_right _ (List.mem_of_getElem? (i := 559) (by decide +kernel))) rfl
theorem mw_560 : (.methodLink "CompiledProgramLaw" 46 ⟨"CompiledProgramModel", "<init>", "()V"⟩ : Cond) ∈ tB := tB_of (List.mem_append_right _ (List.mem_of_getElem? (i := 560) (by decide +kernel))) rfl
theorem mw_561 : (.instanceMethod ⟨"CompiledProgramModel", "<init>", "()V"⟩ : Cond) ∈ tB := tB_of (List.mem_append_right _ (List.mem_of_getElem? (i := 561) (by decide +kernel))) rfl
set_option maxRecDepth 100000 in
theorem mw_562 : (.code ⟨"CompiledProgramModel", "<init>", "()V"⟩ prog_11_method_1_code 1 (none : Option FieldType) : Cond) ∈ tB := tB_of (List.mem_append_right _ (List.mem_of_getElem? (i := 562) rfl)) rfl
theorem mw_563 : (.methodLink "CompiledProgramModel" 1 ⟨"java/lang/Object", "<init>", "()V"⟩ : Cond) ∈ tB := tB_of (List.mem_append_right _ (List.mem_of_getElem? (i := 563) (by decide +kernel))) rfl
theorem mw_564 : (.constant "CompiledProgramModel" 7 32768 : Cond) ∈ tB := tB_of (List.mem_append_right _ (List.mem_of_getElem? (i := 564) (by decide +kernel))) rfl
theorem mw_565 : (.fieldLink "CompiledProgramModel" 28 "CompiledProgramModel" "thrown" "I" : Cond) ∈ tB := tB_of (List.mem_append_right _ (List.mem_of_getElem? (i := 565) (by decide +kernel))) rfl
theorem mw_566 : (.fieldLink "CompiledProgramModel" 8 "CompiledProgramModel" "tape" "[I" : Cond) ∈ tB := tB_of (List.mem_append_right _ (List.mem_of_getElem? (i := 566) (by decide +kernel))) rfl
theorem mw_567 : (.fieldLink "CompiledProgramModel" 31 "CompiledProgramModel" "taped" "I" : Cond) ∈ tB := tB_of (List.mem_append_right _ (List.mem_of_getElem? (i := 567) (by decide +kernel))) rfl
theorem mw_568 : (.fieldLink "CompiledProgramModel" 14 "CompiledProgramModel" "program" "[I" : Cond) ∈ tB := tB_of (List.mem_append_right _ (List.mem_of_getElem? (i := 568) (by decide +kernel))) rfl
theorem mw_569 : (.fieldLink "CompiledProgramModel" 104 "CompiledProgramModel" "places" "I" : Cond) ∈ tB := tB_of (List.mem_append_right _ (List.mem_of_getElem? (i := 569) (by decide +kernel))) rfl
theorem mw_570 : (.fieldLink "CompiledProgramModel" 17 "CompiledProgramModel" "registers" "[J" : Cond) ∈ tB := tB_of (List.mem_append_right _ (List.mem_of_getElem? (i := 570) (by decide +kernel))) rfl
theorem mw_571 : (.fieldLink "CompiledProgramModel" 21 "CompiledProgramModel" "memory" "[I" : Cond) ∈ tB := tB_of (List.mem_append_right _ (List.mem_of_getElem? (i := 571) (by decide +kernel))) rfl
theorem mw_572 : (.fieldLink "CompiledProgramModel" 24 "CompiledProgramModel" "place" "I" : Cond) ∈ tB := tB_of (List.mem_append_right _ (List.mem_of_getElem? (i := 572) (by decide +kernel))) rfl
theorem mw_573 : (.fieldLink "CompiledProgramModel" 180 "CompiledProgramModel" "steps" "I" : Cond) ∈ tB := tB_of (List.mem_append_right _ (List.mem_of_getElem? (i := 573) (by decide +kernel))) rfl
theorem mw_574 : (.fieldLink "CompiledProgramModel" 34 "CompiledProgramModel" "code" "I" : Cond) ∈ tB := tB_of (List.mem_append_right _ (List.mem_of_getElem? (i := 574) (by decide +kernel))) rfl
theorem mw_575 : (.fieldLink "CompiledProgramModel" 37 "CompiledProgramModel" "d" "I" : Cond) ∈ tB := tB_of (List.mem_append_right _ (List.mem_of_getElem? (i := 575) (by decide +kernel))) rfl
theorem mw_576 : (.fieldLink "CompiledProgramModel" 40 "CompiledProgramModel" "s" "I" : Cond) ∈ tB := tB_of (List.mem_append_right _ (List.mem_of_getElem? (i := 576) (by decide +kernel))) rfl
theorem mw_577 : (.fieldLink "CompiledProgramModel" 47 "CompiledProgramModel" "o" "I" : Cond) ∈ tB := tB_of (List.mem_append_right _ (List.mem_of_getElem? (i := 577) (by decide +kernel))) rfl
theorem mw_578 : (.fieldLink "CompiledProgramModel" 50 "CompiledProgramModel" "i" "I" : Cond) ∈ tB := tB_of (List.mem_append_right _ (List.mem_of_getElem? (i := 578) (by decide +kernel))) rfl
theorem mw_579 : (.fieldLink "CompiledProgramModel" 158 "CompiledProgramModel" "next" "I" : Cond) ∈ tB := tB_of (List.mem_append_right _ (List.mem_of_getElem? (i := 579) (by decide +kernel))) rfl
theorem mw_580 : (.lays "CompiledProgramModel" "CompiledProgramModel" "thrown" "I" : Cond) ∈ tB := tB_of (List.mem_append_right _ (List.mem_of_getElem? (i := 580) (by decide +kernel))) rfl
theorem mw_581 : (.soleField "CompiledProgramModel" "thrown" : Cond) ∈ tB := tB_of (List.mem_append_right _ (List.mem_of_getElem? (i := 581) (by decide +kernel))) rfl
theorem mw_582 : (.laysFinal "CompiledProgramModel" "CompiledProgramModel" "tape" "[I" : Cond) ∈ tB := tB_of (List.mem_append_right _ (List.mem_of_getElem? (i := 582) (by decide +kernel))) rfl
theorem mw_583 : (.soleField "CompiledProgramModel" "tape" : Cond) ∈ tB := tB_of (List.mem_append_right _ (List.mem_of_getElem? (i := 583) (by decide +kernel))) rfl
theorem mw_584 : (.lays "CompiledProgramModel" "CompiledProgramModel" "taped" "I" : Cond) ∈ tB := tB_of (List.mem_append_right _ (List.mem_of_getElem? (i := 584) (by decide +kernel))) rfl
theorem mw_585 : (.soleField "CompiledProgramModel" "taped" : Cond) ∈ tB := tB_of (List.mem_append_right _ (List.mem_of_getElem? (i := 585) (by decide +kernel))) rfl
theorem mw_586 : (.laysFinal "CompiledProgramModel" "CompiledProgramModel" "program" "[I" : Cond) ∈ tB := tB_of (List.mem_append_right _ (List.mem_of_getElem? (i := 586) (by decide +kernel))) rfl
theorem mw_587 : (.soleField "CompiledProgramModel" "program" : Cond) ∈ tB := tB_of (List.mem_append_right _ (List.mem_of_getElem? (i := 587) (by decide +kernel))) rfl
theorem mw_588 : (.lays "CompiledProgramModel" "CompiledProgramModel" "places" "I" : Cond) ∈ tB := tB_of (List.mem_append_right _ (List.mem_of_getElem? (i := 588) (by decide +kernel))) rfl
theorem mw_589 : (.soleField "CompiledProgramModel" "places" : Cond) ∈ tB := tB_of (List.mem_append_right _ (List.mem_of_getElem? (i := 589) (by decide +kernel))) rfl
theorem mw_590 : (.laysFinal "CompiledProgramModel" "CompiledProgramModel" "registers" "[J" : Cond) ∈ tB := tB_of (List.mem_append_right _ (List.mem_of_getElem? (i := 590) (by decide +kernel))) rfl
theorem mw_591 : (.soleField "CompiledProgramModel" "registers" : Cond) ∈ tB := tB_of (List.mem_append_right _ (List.mem_of_getElem? (i := 591) (by decide +kernel))) rfl
theorem mw_592 : (.laysFinal "CompiledProgramModel" "CompiledProgramModel" "memory" "[I" : Cond) ∈ tB := tB_of (List.mem_append_right _ (List.mem_of_getElem? (i := 592) (by decide +kernel))) rfl
theorem mw_593 : (.soleField "CompiledProgramModel" "memory" : Cond) ∈ tB := tB_of (List.mem_append_right _ (List.mem_of_getElem? (i := 593) (by decide +kernel))) rfl
theorem mw_594 : (.lays "CompiledProgramModel" "CompiledProgramModel" "place" "I" : Cond) ∈ tB := tB_of (List.mem_append_right _ (List.mem_of_getElem? (i := 594) (by decide +kernel))) rfl
theorem mw_595 : (.soleField "CompiledProgramModel" "place" : Cond) ∈ tB := tB_of (List.mem_append_right _ (List.mem_of_getElem? (i := 595) (by decide +kernel))) rfl
theorem mw_596 : (.lays "CompiledProgramModel" "CompiledProgramModel" "steps" "I" : Cond) ∈ tB := tB_of (List.mem_append_right _ (List.mem_of_getElem? (i := 596) (by decide +kernel))) rfl
theorem mw_597 : (.soleField "CompiledProgramModel" "steps" : Cond) ∈ tB := tB_of (List.mem_append_right _ (List.mem_of_getElem? (i := 597) (by decide +kernel))) rfl
theorem mw_598 : (.lays "CompiledProgramModel" "CompiledProgramModel" "code" "I" : Cond) ∈ tB := tB_of (List.mem_append_right _ (List.mem_of_getElem? (i := 598) (by decide +kernel))) rfl
theorem mw_599 : (.soleField "CompiledProgramModel" "code" : Cond) ∈ tB := tB_of (List.mem_append_right _ (List.mem_of_getElem? (i := 599) (by decide +kernel))) rfl
theorem mw_600 : (.lays "CompiledProgramModel" "CompiledProgramModel" "d" "I" : Cond) ∈ tB := tB_of (List.mem_append_right _ (List.mem_of_getElem? (i := 600) (by decide +kernel))) rfl
theorem mw_601 : (.soleField "CompiledProgramModel" "d" : Cond) ∈ tB := tB_of (List.mem_append_right _ (List.mem_of_getElem? (i := 601) (by decide +kernel))) rfl
theorem mw_602 : (.lays "CompiledProgramModel" "CompiledProgramModel" "s" "I" : Cond) ∈ tB := tB_of (List.mem_append_right _ (List.mem_of_getElem? (i := 602) (by decide +kernel))) rfl
theorem mw_603 : (.soleField "CompiledProgramModel" "s" : Cond) ∈ tB := tB_of (List.mem_append_right _ (List.mem_of_getElem? (i := 603) (by decide +kernel))) rfl
theorem mw_604 : (.lays "CompiledProgramModel" "CompiledProgramModel" "o" "I" : Cond) ∈ tB := tB_of (List.mem_append_right _ (List.mem_of_getElem? (i := 604) (by decide +kernel))) rfl
theorem mw_605 : (.soleField "CompiledProgramModel" "o" : Cond) ∈ tB := tB_of (List.mem_append_right _ (List.mem_of_getElem? (i := 605) (by decide +kernel))) rfl
theorem mw_606 : (.lays "CompiledProgramModel" "CompiledProgramModel" "i" "I" : Cond) ∈ tB := tB_of (List.mem_append_right _ (List.mem_of_getElem? (i := 606) (by decide +kernel))) rfl
theorem mw_607 : (.soleField "CompiledProgramModel" "i" : Cond) ∈ tB := tB_of (List.mem_append_right _ (List.mem_of_getElem? (i := 607) (by decide +kernel))) rfl
theorem mw_608 : (.lays "CompiledProgramModel" "CompiledProgramModel" "next" "I" : Cond) ∈ tB := tB_of (List.mem_append_right _ (List.mem_of_getElem? (i := 608) (by decide +kernel))) rfl
theorem mw_609 : (.soleField "CompiledProgramModel" "next" : Cond) ∈ tB := tB_of (List.mem_append_right _ (List.mem_of_getElem? (i := 609) (by decide +kernel))) rfl
theorem mw_610 : (.superclass "CompiledProgramModel" "java/lang/Object" : Cond) ∈ tB := tB_of (List.mem_append_right _ (List.mem_of_getElem? (i := 610) (by decide +kernel))) rfl
theorem mw_611 : (.arrayClass FieldType.int : Cond) ∈ tB := tB_of (List.mem_append_right _ (List.mem_of_getElem? (i := 611) (by decide +kernel))) rfl
theorem mw_612 : (.methodLink "CompiledProgramLaw" 53 ⟨"CompiledProgramModel", "thrown", "()I"⟩ : Cond) ∈ tB := tB_of (List.mem_append_right _ (List.mem_of_getElem? (i := 612) (by decide +kernel))) rfl
theorem mw_613 : (.instanceMethod ⟨"CompiledProgramModel", "thrown", "()I"⟩ : Cond) ∈ tB := tB_of (List.mem_append_right _ (List.mem_of_getElem? (i := 613) (by decide +kernel))) rfl
theorem mw_614 : (.selects "CompiledProgramModel" ⟨"CompiledProgramModel", "thrown", "()I"⟩ ⟨"CompiledProgramModel", "thrown", "()I"⟩ : Cond) ∈ tB := tB_of (List.mem_append_right _ (List.mem_of_getElem? (i := 614) (by decide +kernel))) rfl
set_option maxRecDepth 100000 in
theorem mw_615 : (.code ⟨"CompiledProgramModel", "thrown", "()I"⟩ prog_11_method_2_code 1 (some FieldType.int) : Cond) ∈ tB := tB_of (List.mem_append_right _ (List.mem_of_getElem? (i := 615) rfl)) rfl
theorem mw_616 : (.methodLink "CompiledProgramLaw" 52 ⟨"CompiledProgramModel", "feed", "(IIIII)I"⟩ : Cond) ∈ tB := tB_of (List.mem_append_right _ (List.mem_of_getElem? (i := 616) (by decide +kernel))) rfl
theorem mw_617 : (.instanceMethod ⟨"CompiledProgramModel", "feed", "(IIIII)I"⟩ : Cond) ∈ tB := tB_of (List.mem_append_right _ (List.mem_of_getElem? (i := 617) (by decide +kernel))) rfl
theorem mw_618 : (.selects "CompiledProgramModel" ⟨"CompiledProgramModel", "feed", "(IIIII)I"⟩ ⟨"CompiledProgramModel", "feed", "(IIIII)I"⟩ : Cond) ∈ tB := tB_of (List.mem_append_right _ (List.mem_of_getElem? (i := 618) (by decide +kernel))) rfl
set_option maxRecDepth 100000 in
theorem mw_619 : (.code ⟨"CompiledProgramModel", "feed", "(IIIII)I"⟩ prog_11_method_3_code 8 (some FieldType.int) : Cond) ∈ tB := tB_of (List.mem_append_right _ (List.mem_of_getElem? (i := 619) rfl)) rfl
theorem mw_620 : (.methodLink "CompiledProgramLaw" 60 ⟨"CompiledProgramModel", "end", "(I)V"⟩ : Cond) ∈ tB := tB_of (List.mem_append_right _ (List.mem_of_getElem? (i := 620) (by decide +kernel))) rfl
theorem mw_621 : (.instanceMethod ⟨"CompiledProgramModel", "end", "(I)V"⟩ : Cond) ∈ tB := tB_of (List.mem_append_right _ (List.mem_of_getElem? (i := 621) (by decide +kernel))) rfl
theorem mw_622 : (.selects "CompiledProgramModel" ⟨"CompiledProgramModel", "end", "(I)V"⟩ ⟨"CompiledProgramModel", "end", "(I)V"⟩ : Cond) ∈ tB := tB_of (List.mem_append_right _ (List.mem_of_getElem? (i := 622) (by decide +kernel))) rfl
set_option maxRecDepth 100000 in
theorem mw_623 : (.code ⟨"CompiledProgramModel", "end", "(I)V"⟩ prog_11_method_4_code 2 (none : Option FieldType) : Cond) ∈ tB := tB_of (List.mem_append_right _ (List.mem_of_getElem? (i := 623) rfl)) rfl
theorem mw_624 : (.methodLink "CompiledProgramLaw" 64 ⟨"CompiledProgramModel", "load", "()I"⟩ : Cond) ∈ tB := tB_of (List.mem_append_right _ (List.mem_of_getElem? (i := 624) (by decide +kernel))) rfl
theorem mw_625 : (.instanceMethod ⟨"CompiledProgramModel", "load", "()I"⟩ : Cond) ∈ tB := tB_of (List.mem_append_right _ (List.mem_of_getElem? (i := 625) (by decide +kernel))) rfl
theorem mw_626 : (.selects "CompiledProgramModel" ⟨"CompiledProgramModel", "load", "()I"⟩ ⟨"CompiledProgramModel", "load", "()I"⟩ : Cond) ∈ tB := tB_of (List.mem_append_right _ (List.mem_of_getElem? (i := 626) (by decide +kernel))) rfl
set_option maxRecDepth 100000 in
theorem mw_627 : (.code ⟨"CompiledProgramModel", "load", "()I"⟩ prog_11_method_21_code 4 (some FieldType.int) : Cond) ∈ tB := tB_of (List.mem_append_right _ (List.mem_of_getElem? (i := 627) rfl)) rfl
theorem mw_628 : (.methodLink "CompiledProgramModel" 97 ⟨"CompiledProgramModel", "wrongPlace", "(I)I"⟩ : Cond) ∈ tB := tB_of (List.mem_append_right _ (List.mem_of_getElem? (i := 628) (by decide +kernel))) rfl
theorem mw_630 : (.instanceMethod ⟨"CompiledProgramModel", "wrongPlace", "(I)I"⟩ : Cond) ∈ tB := tB_of (List.mem_append_right _ (List.mem_of_getElem? (i := 630) (by decide +kernel))) rfl
set_option maxRecDepth 100000 in
theorem mw_631 : (.code ⟨"CompiledProgramModel", "wrongPlace", "(I)I"⟩ prog_11_method_18_code 3 (some FieldType.int) : Cond) ∈ tB := tB_of (List.mem_append_right _ (List.mem_of_getElem? (i := 631) rfl)) rfl
theorem mw_632 : (.methodLink "CompiledProgramModel" 89 ⟨"CompiledProgramModel", "isInstruction", "([III)Z"⟩ : Cond) ∈ tB := tB_of (List.mem_append_right _ (List.mem_of_getElem? (i := 632) (by decide +kernel))) rfl
theorem mw_634 : (.instanceMethod ⟨"CompiledProgramModel", "isInstruction", "([III)Z"⟩ : Cond) ∈ tB := tB_of (List.mem_append_right _ (List.mem_of_getElem? (i := 634) (by decide +kernel))) rfl
set_option maxRecDepth 100000 in
theorem mw_635 : (.code ⟨"CompiledProgramModel", "isInstruction", "([III)Z"⟩ prog_11_method_17_code 6 (some FieldType.boolean) : Cond) ∈ tB := tB_of (List.mem_append_right _ (List.mem_of_getElem? (i := 635) rfl)) rfl
theorem mw_636 : (.methodLink "CompiledProgramModel" 70 ⟨"CompiledProgramModel", "take", "([II)V"⟩ : Cond) ∈ tB := tB_of (List.mem_append_right _ (List.mem_of_getElem? (i := 636) (by decide +kernel))) rfl
theorem mw_638 : (.instanceMethod ⟨"CompiledProgramModel", "take", "([II)V"⟩ : Cond) ∈ tB := tB_of (List.mem_append_right _ (List.mem_of_getElem? (i := 638) (by decide +kernel))) rfl
set_option maxRecDepth 100000 in
theorem mw_639 : (.code ⟨"CompiledProgramModel", "take", "([II)V"⟩ prog_11_method_6_code 3 (none : Option FieldType) : Cond) ∈ tB := tB_of (List.mem_append_right _ (List.mem_of_getElem? (i := 639) rfl)) rfl
theorem mw_640 : (.methodLink "CompiledProgramModel" 43 ⟨"CompiledProgramModel", "number", "([III)I"⟩ : Cond) ∈ tB := tB_of (List.mem_append_right _ (List.mem_of_getElem? (i := 640) (by decide +kernel))) rfl
theorem mw_641 : (.static ⟨"CompiledProgramModel", "number", "([III)I"⟩ : Cond) ∈ tB := tB_of (List.mem_append_right _ (List.mem_of_getElem? (i := 641) (by decide +kernel))) rfl
set_option maxRecDepth 100000 in
theorem mw_642 : (.code ⟨"CompiledProgramModel", "number", "([III)I"⟩ prog_11_method_5_code 5 (some FieldType.int) : Cond) ∈ tB := tB_of (List.mem_append_right _ (List.mem_of_getElem? (i := 642) rfl)) rfl
theorem mw_643 : (.methodLink "CompiledProgramModel" 57 ⟨"CompiledProgramModel", "kind", "()I"⟩ : Cond) ∈ tB := tB_of (List.mem_append_right _ (List.mem_of_getElem? (i := 643) (by decide +kernel))) rfl
theorem mw_645 : (.instanceMethod ⟨"CompiledProgramModel", "kind", "()I"⟩ : Cond) ∈ tB := tB_of (List.mem_append_right _ (List.mem_of_getElem? (i := 645) (by decide +kernel))) rfl
set_option maxRecDepth 100000 in
theorem mw_646 : (.code ⟨"CompiledProgramModel", "kind", "()I"⟩ prog_11_method_7_code 1 (some FieldType.int) : Cond) ∈ tB := tB_of (List.mem_append_right _ (List.mem_of_getElem? (i := 646) rfl)) rfl
theorem mw_647 : (.methodLink "CompiledProgramModel" 74 ⟨"CompiledProgramModel", "isArithmetic", "()Z"⟩ : Cond) ∈ tB := tB_of (List.mem_append_right _ (List.mem_of_getElem? (i := 647) (by decide +kernel))) rfl
theorem mw_649 : (.instanceMethod ⟨"CompiledProgramModel", "isArithmetic", "()Z"⟩ : Cond) ∈ tB := tB_of (List.mem_append_right _ (List.mem_of_getElem? (i := 649) (by decide +kernel))) rfl
set_option maxRecDepth 100000 in
theorem mw_650 : (.code ⟨"CompiledProgramModel", "isArithmetic", "()Z"⟩ prog_11_method_14_code 3 (some FieldType.boolean) : Cond) ∈ tB := tB_of (List.mem_append_right _ (List.mem_of_getElem? (i := 650) rfl)) rfl
theorem mw_651 : (.methodLink "CompiledProgramModel" 61 ⟨"CompiledProgramModel", "n", "()I"⟩ : Cond) ∈ tB := tB_of (List.mem_append_right _ (List.mem_of_getElem? (i := 651) (by decide +kernel))) rfl
theorem mw_653 : (.instanceMethod ⟨"CompiledProgramModel", "n", "()I"⟩ : Cond) ∈ tB := tB_of (List.mem_append_right _ (List.mem_of_getElem? (i := 653) (by decide +kernel))) rfl
set_option maxRecDepth 100000 in
theorem mw_654 : (.code ⟨"CompiledProgramModel", "n", "()I"⟩ prog_11_method_8_code 1 (some FieldType.int) : Cond) ∈ tB := tB_of (List.mem_append_right _ (List.mem_of_getElem? (i := 654) rfl)) rfl
theorem mw_655 : (.methodLink "CompiledProgramModel" 53 ⟨"CompiledProgramModel", "bit3", "()Z"⟩ : Cond) ∈ tB := tB_of (List.mem_append_right _ (List.mem_of_getElem? (i := 655) (by decide +kernel))) rfl
theorem mw_657 : (.instanceMethod ⟨"CompiledProgramModel", "bit3", "()Z"⟩ : Cond) ∈ tB := tB_of (List.mem_append_right _ (List.mem_of_getElem? (i := 657) (by decide +kernel))) rfl
set_option maxRecDepth 100000 in
theorem mw_658 : (.code ⟨"CompiledProgramModel", "bit3", "()Z"⟩ prog_11_method_9_code 1 (some FieldType.boolean) : Cond) ∈ tB := tB_of (List.mem_append_right _ (List.mem_of_getElem? (i := 658) rfl)) rfl
theorem mw_659 : (.methodLink "CompiledProgramModel" 64 ⟨"CompiledProgramModel", "hasSource", "()Z"⟩ : Cond) ∈ tB := tB_of (List.mem_append_right _ (List.mem_of_getElem? (i := 659) (by decide +kernel))) rfl
theorem mw_661 : (.instanceMethod ⟨"CompiledProgramModel", "hasSource", "()Z"⟩ : Cond) ∈ tB := tB_of (List.mem_append_right _ (List.mem_of_getElem? (i := 661) (by decide +kernel))) rfl
set_option maxRecDepth 100000 in
theorem mw_662 : (.code ⟨"CompiledProgramModel", "hasSource", "()Z"⟩ prog_11_method_13_code 1 (some FieldType.boolean) : Cond) ∈ tB := tB_of (List.mem_append_right _ (List.mem_of_getElem? (i := 662) rfl)) rfl
theorem mw_663 : (.methodLink "CompiledProgramModel" 77 ⟨"CompiledProgramModel", "isJump", "()Z"⟩ : Cond) ∈ tB := tB_of (List.mem_append_right _ (List.mem_of_getElem? (i := 663) (by decide +kernel))) rfl
theorem mw_665 : (.instanceMethod ⟨"CompiledProgramModel", "isJump", "()Z"⟩ : Cond) ∈ tB := tB_of (List.mem_append_right _ (List.mem_of_getElem? (i := 665) (by decide +kernel))) rfl
set_option maxRecDepth 100000 in
theorem mw_666 : (.code ⟨"CompiledProgramModel", "isJump", "()Z"⟩ prog_11_method_15_code 2 (some FieldType.boolean) : Cond) ∈ tB := tB_of (List.mem_append_right _ (List.mem_of_getElem? (i := 666) rfl)) rfl
theorem mw_667 : (.methodLink "CompiledProgramModel" 80 ⟨"CompiledProgramModel", "mode", "()I"⟩ : Cond) ∈ tB := tB_of (List.mem_append_right _ (List.mem_of_getElem? (i := 667) (by decide +kernel))) rfl
theorem mw_669 : (.instanceMethod ⟨"CompiledProgramModel", "mode", "()I"⟩ : Cond) ∈ tB := tB_of (List.mem_append_right _ (List.mem_of_getElem? (i := 669) (by decide +kernel))) rfl
set_option maxRecDepth 100000 in
theorem mw_670 : (.code ⟨"CompiledProgramModel", "mode", "()I"⟩ prog_11_method_11_code 1 (some FieldType.int) : Cond) ∈ tB := tB_of (List.mem_append_right _ (List.mem_of_getElem? (i := 670) rfl)) rfl
theorem mw_671 : (.methodLink "CompiledProgramModel" 67 ⟨"CompiledProgramModel", "size", "()I"⟩ : Cond) ∈ tB := tB_of (List.mem_append_right _ (List.mem_of_getElem? (i := 671) (by decide +kernel))) rfl
theorem mw_673 : (.instanceMethod ⟨"CompiledProgramModel", "size", "()I"⟩ : Cond) ∈ tB := tB_of (List.mem_append_right _ (List.mem_of_getElem? (i := 673) (by decide +kernel))) rfl
set_option maxRecDepth 100000 in
theorem mw_674 : (.code ⟨"CompiledProgramModel", "size", "()I"⟩ prog_11_method_10_code 2 (some FieldType.int) : Cond) ∈ tB := tB_of (List.mem_append_right _ (List.mem_of_getElem? (i := 674) rfl)) rfl
theorem mw_675 : (.methodLink "CompiledProgramModel" 83 ⟨"CompiledProgramModel", "isAtomic", "()Z"⟩ : Cond) ∈ tB := tB_of (List.mem_append_right _ (List.mem_of_getElem? (i := 675) (by decide +kernel))) rfl
theorem mw_677 : (.instanceMethod ⟨"CompiledProgramModel", "isAtomic", "()Z"⟩ : Cond) ∈ tB := tB_of (List.mem_append_right _ (List.mem_of_getElem? (i := 677) (by decide +kernel))) rfl
set_option maxRecDepth 100000 in
theorem mw_678 : (.code ⟨"CompiledProgramModel", "isAtomic", "()Z"⟩ prog_11_method_16_code 3 (some FieldType.boolean) : Cond) ∈ tB := tB_of (List.mem_append_right _ (List.mem_of_getElem? (i := 678) rfl)) rfl
theorem mw_679 : (.methodLink "CompiledProgramModel" 86 ⟨"CompiledProgramModel", "isWide", "()Z"⟩ : Cond) ∈ tB := tB_of (List.mem_append_right _ (List.mem_of_getElem? (i := 679) (by decide +kernel))) rfl
theorem mw_681 : (.instanceMethod ⟨"CompiledProgramModel", "isWide", "()Z"⟩ : Cond) ∈ tB := tB_of (List.mem_append_right _ (List.mem_of_getElem? (i := 681) (by decide +kernel))) rfl
set_option maxRecDepth 100000 in
theorem mw_682 : (.code ⟨"CompiledProgramModel", "isWide", "()Z"⟩ prog_11_method_12_code 1 (some FieldType.boolean) : Cond) ∈ tB := tB_of (List.mem_append_right _ (List.mem_of_getElem? (i := 682) rfl)) rfl
theorem mw_683 : (.methodLink "CompiledProgramModel" 101 ⟨"CompiledProgramModel", "wrongWay", "(I)I"⟩ : Cond) ∈ tB := tB_of (List.mem_append_right _ (List.mem_of_getElem? (i := 683) (by decide +kernel))) rfl
theorem mw_685 : (.instanceMethod ⟨"CompiledProgramModel", "wrongWay", "(I)I"⟩ : Cond) ∈ tB := tB_of (List.mem_append_right _ (List.mem_of_getElem? (i := 685) (by decide +kernel))) rfl
set_option maxRecDepth 100000 in
theorem mw_686 : (.code ⟨"CompiledProgramModel", "wrongWay", "(I)I"⟩ prog_11_method_20_code 8 (some FieldType.int) : Cond) ∈ tB := tB_of (List.mem_append_right _ (List.mem_of_getElem? (i := 686) rfl)) rfl
theorem mw_687 : (.methodLink "CompiledProgramModel" 93 ⟨"CompiledProgramModel", "isGoal", "(JI)Z"⟩ : Cond) ∈ tB := tB_of (List.mem_append_right _ (List.mem_of_getElem? (i := 687) (by decide +kernel))) rfl
theorem mw_689 : (.instanceMethod ⟨"CompiledProgramModel", "isGoal", "(JI)Z"⟩ : Cond) ∈ tB := tB_of (List.mem_append_right _ (List.mem_of_getElem? (i := 689) (by decide +kernel))) rfl
set_option maxRecDepth 100000 in
theorem mw_690 : (.code ⟨"CompiledProgramModel", "isGoal", "(JI)Z"⟩ prog_11_method_19_code 5 (some FieldType.boolean) : Cond) ∈ tB := tB_of (List.mem_append_right _ (List.mem_of_getElem? (i := 690) rfl)) rfl
theorem mw_691 : (.methodLink "CompiledProgramLaw" 68 ⟨"CompiledProgramModel", "places", "()I"⟩ : Cond) ∈ tB := tB_of (List.mem_append_right _ (List.mem_of_getElem? (i := 691) (by decide +kernel))) rfl
theorem mw_692 : (.instanceMethod ⟨"CompiledProgramModel", "places", "()I"⟩ : Cond) ∈ tB := tB_of (List.mem_append_right _ (List.mem_of_getElem? (i := 692) (by decide +kernel))) rfl
theorem mw_693 : (.selects "CompiledProgramModel" ⟨"CompiledProgramModel", "places", "()I"⟩ ⟨"CompiledProgramModel", "places", "()I"⟩ : Cond) ∈ tB := tB_of (List.mem_append_right _ (List.mem_of_getElem? (i := 693) (by decide +kernel))) rfl
set_option maxRecDepth 100000 in
theorem mw_694 : (.code ⟨"CompiledProgramModel", "places", "()I"⟩ prog_11_method_22_code 1 (some FieldType.int) : Cond) ∈ tB := tB_of (List.mem_append_right _ (List.mem_of_getElem? (i := 694) rfl)) rfl
theorem mw_695 : (.methodLink "CompiledProgramLaw" 74 ⟨"CompiledProgramModel", "set", "(IJ)V"⟩ : Cond) ∈ tB := tB_of (List.mem_append_right _ (List.mem_of_getElem? (i := 695) (by decide +kernel))) rfl
theorem mw_696 : (.instanceMethod ⟨"CompiledProgramModel", "set", "(IJ)V"⟩ : Cond) ∈ tB := tB_of (List.mem_append_right _ (List.mem_of_getElem? (i := 696) (by decide +kernel))) rfl
theorem mw_697 : (.selects "CompiledProgramModel" ⟨"CompiledProgramModel", "set", "(IJ)V"⟩ ⟨"CompiledProgramModel", "set", "(IJ)V"⟩ : Cond) ∈ tB := tB_of (List.mem_append_right _ (List.mem_of_getElem? (i := 697) (by decide +kernel))) rfl
set_option maxRecDepth 100000 in
theorem mw_698 : (.code ⟨"CompiledProgramModel", "set", "(IJ)V"⟩ prog_11_method_23_code 4 (none : Option FieldType) : Cond) ∈ tB := tB_of (List.mem_append_right _ (List.mem_of_getElem? (i := 698) rfl)) rfl
theorem mw_699 : (.methodLink "CompiledProgramLaw" 78 ⟨"CompiledProgramModel", "get", "(I)J"⟩ : Cond) ∈ tB := tB_of (List.mem_append_right _ (List.mem_of_getElem? (i := 699) (by decide +kernel))) rfl
theorem mw_700 : (.instanceMethod ⟨"CompiledProgramModel", "get", "(I)J"⟩ : Cond) ∈ tB := tB_of (List.mem_append_right _ (List.mem_of_getElem? (i := 700) (by decide +kernel))) rfl
theorem mw_701 : (.selects "CompiledProgramModel" ⟨"CompiledProgramModel", "get", "(I)J"⟩ ⟨"CompiledProgramModel", "get", "(I)J"⟩ : Cond) ∈ tB := tB_of (List.mem_append_right _ (List.mem_of_getElem? (i := 701) (by decide +kernel))) rfl
set_option maxRecDepth 100000 in
theorem mw_702 : (.code ⟨"CompiledProgramModel", "get", "(I)J"⟩ prog_11_method_24_code 2 (some FieldType.long) : Cond) ∈ tB := tB_of (List.mem_append_right _ (List.mem_of_getElem? (i := 702) rfl)) rfl
theorem mw_703 : (.methodLink "CompiledProgramLaw" 82 ⟨"CompiledProgramModel", "put", "(JJ)V"⟩ : Cond) ∈ tB := tB_of (List.mem_append_right _ (List.mem_of_getElem? (i := 703) (by decide +kernel))) rfl
theorem mw_704 : (.instanceMethod ⟨"CompiledProgramModel", "put", "(JJ)V"⟩ : Cond) ∈ tB := tB_of (List.mem_append_right _ (List.mem_of_getElem? (i := 704) (by decide +kernel))) rfl
theorem mw_705 : (.selects "CompiledProgramModel" ⟨"CompiledProgramModel", "put", "(JJ)V"⟩ ⟨"CompiledProgramModel", "put", "(JJ)V"⟩ : Cond) ∈ tB := tB_of (List.mem_append_right _ (List.mem_of_getElem? (i := 705) (by decide +kernel))) rfl
set_option maxRecDepth 100000 in
theorem mw_706 : (.code ⟨"CompiledProgramModel", "put", "(JJ)V"⟩ prog_11_method_28_code 5 (none : Option FieldType) : Cond) ∈ tB := tB_of (List.mem_append_right _ (List.mem_of_getElem? (i := 706) rfl)) rfl
theorem mw_707 : (.methodLink "CompiledProgramModel" 113 ⟨"CompiledProgramModel", "isThere", "(JI)Z"⟩ : Cond) ∈ tB := tB_of (List.mem_append_right _ (List.mem_of_getElem? (i := 707) (by decide +kernel))) rfl
theorem mw_708 : (.static ⟨"CompiledProgramModel", "isThere", "(JI)Z"⟩ : Cond) ∈ tB := tB_of (List.mem_append_right _ (List.mem_of_getElem? (i := 708) (by decide +kernel))) rfl
set_option maxRecDepth 100000 in
theorem mw_709 : (.code ⟨"CompiledProgramModel", "isThere", "(JI)Z"⟩ prog_11_method_25_code 3 (some FieldType.boolean) : Cond) ∈ tB := tB_of (List.mem_append_right _ (List.mem_of_getElem? (i := 709) rfl)) rfl
theorem mw_710 : (.constantLong "CompiledProgramModel" 107 2147483648 : Cond) ∈ tB := tB_of (List.mem_append_right _ (List.mem_of_getElem? (i := 710) (by decide +kernel))) rfl
theorem mw_711 : (.constantLong "CompiledProgramModel" 109 2147487744 : Cond) ∈ tB := tB_of (List.mem_append_right _ (List.mem_of_getElem? (i := 711) (by decide +kernel))) rfl
theorem mw_712 : (.methodLink "CompiledProgramModel" 116 ⟨"CompiledProgramModel", "store", "(JIJ)V"⟩ : Cond) ∈ tB := tB_of (List.mem_append_right _ (List.mem_of_getElem? (i := 712) (by decide +kernel))) rfl
theorem mw_714 : (.instanceMethod ⟨"CompiledProgramModel", "store", "(JIJ)V"⟩ : Cond) ∈ tB := tB_of (List.mem_append_right _ (List.mem_of_getElem? (i := 714) (by decide +kernel))) rfl
set_option maxRecDepth 100000 in
theorem mw_715 : (.code ⟨"CompiledProgramModel", "store", "(JIJ)V"⟩ prog_11_method_27_code 7 (none : Option FieldType) : Cond) ∈ tB := tB_of (List.mem_append_right _ (List.mem_of_getElem? (i := 715) rfl)) rfl
theorem mw_716 : (.methodLink "CompiledProgramLaw" 86 ⟨"CompiledProgramModel", "word", "(J)J"⟩ : Cond) ∈ tB := tB_of (List.mem_append_right _ (List.mem_of_getElem? (i := 716) (by decide +kernel))) rfl
theorem mw_717 : (.instanceMethod ⟨"CompiledProgramModel", "word", "(J)J"⟩ : Cond) ∈ tB := tB_of (List.mem_append_right _ (List.mem_of_getElem? (i := 717) (by decide +kernel))) rfl
theorem mw_718 : (.selects "CompiledProgramModel" ⟨"CompiledProgramModel", "word", "(J)J"⟩ ⟨"CompiledProgramModel", "word", "(J)J"⟩ : Cond) ∈ tB := tB_of (List.mem_append_right _ (List.mem_of_getElem? (i := 718) (by decide +kernel))) rfl
set_option maxRecDepth 100000 in
theorem mw_719 : (.code ⟨"CompiledProgramModel", "word", "(J)J"⟩ prog_11_method_29_code 3 (some FieldType.long) : Cond) ∈ tB := tB_of (List.mem_append_right _ (List.mem_of_getElem? (i := 719) rfl)) rfl
theorem mw_720 : (.methodLink "CompiledProgramModel" 120 ⟨"CompiledProgramModel", "load", "(JI)J"⟩ : Cond) ∈ tB := tB_of (List.mem_append_right _ (List.mem_of_getElem? (i := 720) (by decide +kernel))) rfl
theorem mw_722 : (.instanceMethod ⟨"CompiledProgramModel", "load", "(JI)J"⟩ : Cond) ∈ tB := tB_of (List.mem_append_right _ (List.mem_of_getElem? (i := 722) (by decide +kernel))) rfl
set_option maxRecDepth 100000 in
theorem mw_723 : (.code ⟨"CompiledProgramModel", "load", "(JI)J"⟩ prog_11_method_26_code 7 (some FieldType.long) : Cond) ∈ tB := tB_of (List.mem_append_right _ (List.mem_of_getElem? (i := 723) rfl)) rfl
theorem mw_724 : (.constantLong "CompiledProgramModel" 111 256 : Cond) ∈ tB := tB_of (List.mem_append_right _ (List.mem_of_getElem? (i := 724) (by decide +kernel))) rfl
theorem mw_725 : (.methodLink "CompiledProgramLaw" 89 ⟨"CompiledProgramModel", "run", "(I)I"⟩ : Cond) ∈ tB := tB_of (List.mem_append_right _ (List.mem_of_getElem? (i := 725) (by decide +kernel))) rfl
theorem mw_726 : (.instanceMethod ⟨"CompiledProgramModel", "run", "(I)I"⟩ : Cond) ∈ tB := tB_of (List.mem_append_right _ (List.mem_of_getElem? (i := 726) (by decide +kernel))) rfl
theorem mw_727 : (.selects "CompiledProgramModel" ⟨"CompiledProgramModel", "run", "(I)I"⟩ ⟨"CompiledProgramModel", "run", "(I)I"⟩ : Cond) ∈ tB := tB_of (List.mem_append_right _ (List.mem_of_getElem? (i := 727) (by decide +kernel))) rfl
set_option maxRecDepth 100000 in
theorem mw_728 : (.code ⟨"CompiledProgramModel", "run", "(I)I"⟩ prog_11_method_44_code 4 (some FieldType.int) : Cond) ∈ tB := tB_of (List.mem_append_right _ (List.mem_of_getElem? (i := 728) rfl)) rfl
theorem mw_729 : (.constant "CompiledProgramModel" 179 100000 : Cond) ∈ tB := tB_of (List.mem_append_right _ (List.mem_of_getElem? (i := 729) (by decide +kernel))) rfl
theorem mw_730 : (.methodLink "CompiledProgramModel" 183 ⟨"CompiledProgramModel", "does", "(I)Z"⟩ : Cond) ∈ tB := tB_of (List.mem_append_right _ (List.mem_of_getElem? (i := 730) (by decide +kernel))) rfl
theorem mw_732 : (.instanceMethod ⟨"CompiledProgramModel", "does", "(I)Z"⟩ : Cond) ∈ tB := tB_of (List.mem_append_right _ (List.mem_of_getElem? (i := 732) (by decide +kernel))) rfl
set_option maxRecDepth 100000 in
theorem mw_733 : (.code ⟨"CompiledProgramModel", "does", "(I)Z"⟩ prog_11_method_43_code 4 (some FieldType.boolean) : Cond) ∈ tB := tB_of (List.mem_append_right _ (List.mem_of_getElem? (i := 733) rfl)) rfl
theorem mw_734 : (.methodLink "CompiledProgramModel" 167 ⟨"CompiledProgramModel", "arithmetic", "()V"⟩ : Cond) ∈ tB := tB_of (List.mem_append_right _ (List.mem_of_getElem? (i := 734) (by decide +kernel))) rfl
theorem mw_736 : (.instanceMethod ⟨"CompiledProgramModel", "arithmetic", "()V"⟩ : Cond) ∈ tB := tB_of (List.mem_append_right _ (List.mem_of_getElem? (i := 736) (by decide +kernel))) rfl
set_option maxRecDepth 100000 in
theorem mw_737 : (.code ⟨"CompiledProgramModel", "arithmetic", "()V"⟩ prog_11_method_37_code 6 (none : Option FieldType) : Cond) ∈ tB := tB_of (List.mem_append_right _ (List.mem_of_getElem? (i := 737) rfl)) rfl
theorem mw_738 : (.methodLink "CompiledProgramModel" 146 ⟨"CompiledProgramModel", "turned", "(JI)J"⟩ : Cond) ∈ tB := tB_of (List.mem_append_right _ (List.mem_of_getElem? (i := 738) (by decide +kernel))) rfl
theorem mw_739 : (.static ⟨"CompiledProgramModel", "turned", "(JI)J"⟩ : Cond) ∈ tB := tB_of (List.mem_append_right _ (List.mem_of_getElem? (i := 739) (by decide +kernel))) rfl
set_option maxRecDepth 100000 in
theorem mw_740 : (.code ⟨"CompiledProgramModel", "turned", "(JI)J"⟩ prog_11_method_33_code 6 (some FieldType.long) : Cond) ∈ tB := tB_of (List.mem_append_right _ (List.mem_of_getElem? (i := 740) rfl)) rfl
theorem mw_741 : (.constantLong "CompiledProgramModel" 134 255 : Cond) ∈ tB := tB_of (List.mem_append_right _ (List.mem_of_getElem? (i := 741) (by decide +kernel))) rfl
theorem mw_742 : (.methodLink "CompiledProgramModel" 136 ⟨"CompiledProgramModel", "lowest", "(JI)J"⟩ : Cond) ∈ tB := tB_of (List.mem_append_right _ (List.mem_of_getElem? (i := 742) (by decide +kernel))) rfl
theorem mw_743 : (.static ⟨"CompiledProgramModel", "lowest", "(JI)J"⟩ : Cond) ∈ tB := tB_of (List.mem_append_right _ (List.mem_of_getElem? (i := 743) (by decide +kernel))) rfl
set_option maxRecDepth 100000 in
theorem mw_744 : (.code ⟨"CompiledProgramModel", "lowest", "(JI)J"⟩ prog_11_method_35_code 3 (some FieldType.long) : Cond) ∈ tB := tB_of (List.mem_append_right _ (List.mem_of_getElem? (i := 744) rfl)) rfl
theorem mw_745 : (.methodLink "CompiledProgramModel" 149 ⟨"CompiledProgramModel", "reckoned", "(JJI)J"⟩ : Cond) ∈ tB := tB_of (List.mem_append_right _ (List.mem_of_getElem? (i := 745) (by decide +kernel))) rfl
theorem mw_747 : (.instanceMethod ⟨"CompiledProgramModel", "reckoned", "(JJI)J"⟩ : Cond) ∈ tB := tB_of (List.mem_append_right _ (List.mem_of_getElem? (i := 747) (by decide +kernel))) rfl
set_option maxRecDepth 100000 in
theorem mw_748 : (.code ⟨"CompiledProgramModel", "reckoned", "(JJI)J"⟩ prog_11_method_36_code 12 (some FieldType.long) : Cond) ∈ tB := tB_of (List.mem_append_right _ (List.mem_of_getElem? (i := 748) rfl)) rfl
theorem mw_749 : (.methodLink "CompiledProgramModel" 139 ⟨"CompiledProgramModel", "quotient", "(JJZ)J"⟩ : Cond) ∈ tB := tB_of (List.mem_append_right _ (List.mem_of_getElem? (i := 749) (by decide +kernel))) rfl
theorem mw_750 : (.static ⟨"CompiledProgramModel", "quotient", "(JJZ)J"⟩ : Cond) ∈ tB := tB_of (List.mem_append_right _ (List.mem_of_getElem? (i := 750) (by decide +kernel))) rfl
set_option maxRecDepth 100000 in
theorem mw_751 : (.code ⟨"CompiledProgramModel", "quotient", "(JJZ)J"⟩ prog_11_method_32_code 9 (some FieldType.long) : Cond) ∈ tB := tB_of (List.mem_append_right _ (List.mem_of_getElem? (i := 751) rfl)) rfl
theorem mw_752 : (.methodLink "CompiledProgramModel" 130 ⟨"CompiledProgramModel", "divided", "(JJ)J"⟩ : Cond) ∈ tB := tB_of (List.mem_append_right _ (List.mem_of_getElem? (i := 752) (by decide +kernel))) rfl
theorem mw_753 : (.static ⟨"CompiledProgramModel", "divided", "(JJ)J"⟩ : Cond) ∈ tB := tB_of (List.mem_append_right _ (List.mem_of_getElem? (i := 753) (by decide +kernel))) rfl
set_option maxRecDepth 100000 in
theorem mw_754 : (.code ⟨"CompiledProgramModel", "divided", "(JJ)J"⟩ prog_11_method_31_code 10 (some FieldType.long) : Cond) ∈ tB := tB_of (List.mem_append_right _ (List.mem_of_getElem? (i := 754) rfl)) rfl
theorem mw_755 : (.constantLong "CompiledProgramModel" 124 2 : Cond) ∈ tB := tB_of (List.mem_append_right _ (List.mem_of_getElem? (i := 755) (by decide +kernel))) rfl
theorem mw_756 : (.methodLink "CompiledProgramModel" 126 ⟨"CompiledProgramModel", "isLess", "(JJ)Z"⟩ : Cond) ∈ tB := tB_of (List.mem_append_right _ (List.mem_of_getElem? (i := 756) (by decide +kernel))) rfl
theorem mw_757 : (.static ⟨"CompiledProgramModel", "isLess", "(JJ)Z"⟩ : Cond) ∈ tB := tB_of (List.mem_append_right _ (List.mem_of_getElem? (i := 757) (by decide +kernel))) rfl
set_option maxRecDepth 100000 in
theorem mw_758 : (.code ⟨"CompiledProgramModel", "isLess", "(JJ)Z"⟩ prog_11_method_30_code 4 (some FieldType.boolean) : Cond) ∈ tB := tB_of (List.mem_append_right _ (List.mem_of_getElem? (i := 758) rfl)) rfl
theorem mw_759 : (.methodLink "CompiledProgramModel" 143 ⟨"CompiledProgramModel", "signed", "(JI)J"⟩ : Cond) ∈ tB := tB_of (List.mem_append_right _ (List.mem_of_getElem? (i := 759) (by decide +kernel))) rfl
theorem mw_760 : (.static ⟨"CompiledProgramModel", "signed", "(JI)J"⟩ : Cond) ∈ tB := tB_of (List.mem_append_right _ (List.mem_of_getElem? (i := 760) (by decide +kernel))) rfl
set_option maxRecDepth 100000 in
theorem mw_761 : (.code ⟨"CompiledProgramModel", "signed", "(JI)J"⟩ prog_11_method_34_code 7 (some FieldType.long) : Cond) ∈ tB := tB_of (List.mem_append_right _ (List.mem_of_getElem? (i := 761) rfl)) rfl
theorem mw_762 : (.methodLink "CompiledProgramModel" 170 ⟨"CompiledProgramModel", "jump", "(I)V"⟩ : Cond) ∈ tB := tB_of (List.mem_append_right _ (List.mem_of_getElem? (i := 762) (by decide +kernel))) rfl
theorem mw_764 : (.instanceMethod ⟨"CompiledProgramModel", "jump", "(I)V"⟩ : Cond) ∈ tB := tB_of (List.mem_append_right _ (List.mem_of_getElem? (i := 764) (by decide +kernel))) rfl
set_option maxRecDepth 100000 in
theorem mw_765 : (.code ⟨"CompiledProgramModel", "jump", "(I)V"⟩ prog_11_method_40_code 7 (none : Option FieldType) : Cond) ∈ tB := tB_of (List.mem_append_right _ (List.mem_of_getElem? (i := 765) rfl)) rfl
theorem mw_766 : (.methodLink "CompiledProgramModel" 155 ⟨"CompiledProgramModel", "call", "()V"⟩ : Cond) ∈ tB := tB_of (List.mem_append_right _ (List.mem_of_getElem? (i := 766) (by decide +kernel))) rfl
theorem mw_768 : (.instanceMethod ⟨"CompiledProgramModel", "call", "()V"⟩ : Cond) ∈ tB := tB_of (List.mem_append_right _ (List.mem_of_getElem? (i := 768) (by decide +kernel))) rfl
set_option maxRecDepth 100000 in
theorem mw_769 : (.code ⟨"CompiledProgramModel", "call", "()V"⟩ prog_11_method_39_code 4 (none : Option FieldType) : Cond) ∈ tB := tB_of (List.mem_append_right _ (List.mem_of_getElem? (i := 769) rfl)) rfl
theorem mw_770 : (.constantLong "CompiledProgramModel" 153 31 : Cond) ∈ tB := tB_of (List.mem_append_right _ (List.mem_of_getElem? (i := 770) (by decide +kernel))) rfl
theorem mw_771 : (.methodLink "CompiledProgramModel" 161 ⟨"CompiledProgramModel", "isSo", "(JJ)Z"⟩ : Cond) ∈ tB := tB_of (List.mem_append_right _ (List.mem_of_getElem? (i := 771) (by decide +kernel))) rfl
theorem mw_773 : (.instanceMethod ⟨"CompiledProgramModel", "isSo", "(JJ)Z"⟩ : Cond) ∈ tB := tB_of (List.mem_append_right _ (List.mem_of_getElem? (i := 773) (by decide +kernel))) rfl
set_option maxRecDepth 100000 in
theorem mw_774 : (.code ⟨"CompiledProgramModel", "isSo", "(JJ)Z"⟩ prog_11_method_38_code 5 (some FieldType.boolean) : Cond) ∈ tB := tB_of (List.mem_append_right _ (List.mem_of_getElem? (i := 774) rfl)) rfl
theorem mw_775 : (.constantLong "CompiledProgramModel" 174 4294967295 : Cond) ∈ tB := tB_of (List.mem_append_right _ (List.mem_of_getElem? (i := 775) (by decide +kernel))) rfl
theorem mw_776 : (.methodLink "CompiledProgramModel" 176 ⟨"CompiledProgramModel", "access", "()Z"⟩ : Cond) ∈ tB := tB_of (List.mem_append_right _ (List.mem_of_getElem? (i := 776) (by decide +kernel))) rfl
theorem mw_778 : (.instanceMethod ⟨"CompiledProgramModel", "access", "()Z"⟩ : Cond) ∈ tB := tB_of (List.mem_append_right _ (List.mem_of_getElem? (i := 778) (by decide +kernel))) rfl
set_option maxRecDepth 100000 in
theorem mw_779 : (.code ⟨"CompiledProgramModel", "access", "()Z"⟩ prog_11_method_42_code 4 (some FieldType.boolean) : Cond) ∈ tB := tB_of (List.mem_append_right _ (List.mem_of_getElem? (i := 779) rfl)) rfl
theorem mw_780 : (.methodLink "CompiledProgramModel" 164 ⟨"CompiledProgramModel", "atomic", "(JI)Z"⟩ : Cond) ∈ tB := tB_of (List.mem_append_right _ (List.mem_of_getElem? (i := 780) (by decide +kernel))) rfl
theorem mw_782 : (.instanceMethod ⟨"CompiledProgramModel", "atomic", "(JI)Z"⟩ : Cond) ∈ tB := tB_of (List.mem_append_right _ (List.mem_of_getElem? (i := 782) (by decide +kernel))) rfl
set_option maxRecDepth 100000 in
theorem mw_783 : (.code ⟨"CompiledProgramModel", "atomic", "(JI)Z"⟩ prog_11_method_41_code 11 (some FieldType.boolean) : Cond) ∈ tB := tB_of (List.mem_append_right _ (List.mem_of_getElem? (i := 783) rfl)) rfl
theorem mw_784 : (.methodLink "CompiledProgramLaw" 93 ⟨"CompiledProgramModel", "place", "()I"⟩ : Cond) ∈ tB := tB_of (List.mem_append_right _ (List.mem_of_getElem? (i := 784) (by decide +kernel))) rfl
theorem mw_785 : (.instanceMethod ⟨"CompiledProgramModel", "place", "()I"⟩ : Cond) ∈ tB := tB_of (List.mem_append_right _ (List.mem_of_getElem? (i := 785) (by decide +kernel))) rfl
theorem mw_786 : (.selects "CompiledProgramModel" ⟨"CompiledProgramModel", "place", "()I"⟩ ⟨"CompiledProgramModel", "place", "()I"⟩ : Cond) ∈ tB := tB_of (List.mem_append_right _ (List.mem_of_getElem? (i := 786) (by decide +kernel))) rfl
set_option maxRecDepth 100000 in
theorem mw_787 : (.code ⟨"CompiledProgramModel", "place", "()I"⟩ prog_11_method_45_code 1 (some FieldType.int) : Cond) ∈ tB := tB_of (List.mem_append_right _ (List.mem_of_getElem? (i := 787) rfl)) rfl
theorem mw_788 : (.methodLink "CompiledProgramLaw" 97 ⟨"CompiledProgramModel", "steps", "()I"⟩ : Cond) ∈ tB := tB_of (List.mem_append_right _ (List.mem_of_getElem? (i := 788) (by decide +kernel))) rfl
theorem mw_789 : (.instanceMethod ⟨"CompiledProgramModel", "steps", "()I"⟩ : Cond) ∈ tB := tB_of (List.mem_append_right _ (List.mem_of_getElem? (i := 789) (by decide +kernel))) rfl
theorem mw_790 : (.selects "CompiledProgramModel" ⟨"CompiledProgramModel", "steps", "()I"⟩ ⟨"CompiledProgramModel", "steps", "()I"⟩ : Cond) ∈ tB := tB_of (List.mem_append_right _ (List.mem_of_getElem? (i := 790) (by decide +kernel))) rfl
set_option maxRecDepth 100000 in
theorem mw_791 : (.code ⟨"CompiledProgramModel", "steps", "()I"⟩ prog_11_method_46_code 1 (some FieldType.int) : Cond) ∈ tB := tB_of (List.mem_append_right _ (List.mem_of_getElem? (i := 791) rfl)) rfl
theorem mw_792 : (.constantLong "CompiledProgramLaw" 69 4294967295 : Cond) ∈ tB := tB_of (List.mem_append_right _ (List.mem_of_getElem? (i := 792) (by decide +kernel))) rfl
theorem mw_793 : (.sameMethod "java/lang/Throwable" "java/lang/Throwable" "fillInStackTrace" "(I)Ljava/lang/Throwable;" : Cond) ∈ tB := tB_of (List.mem_append_right _ (List.mem_of_getElem? (i := 793) (by decide +kernel))) rfl
