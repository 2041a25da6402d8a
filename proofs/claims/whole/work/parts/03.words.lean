theorem ms_3 : (.selects "CompiledProgramModel" ⟨"CompiledProgramModel", "take", "([II)V"⟩ ⟨"CompiledProgramModel", "take", "([II)V"⟩ : Cond) ∈ tB := tB_of (List.mem_append_left _ (List.mem_of_getElem? (i := 3) (by decide +kernel))) rfl
theorem ms_4 : (.selects "CompiledProgramModel" ⟨"CompiledProgramModel", "kind", "()I"⟩ ⟨"CompiledProgramModel", "kind", "()I"⟩ : Cond) ∈ tB := tB_of (List.mem_append_left _ (List.mem_of_getElem? (i := 4) (by decide +kernel))) rfl
theorem ms_5 : (.selects "CompiledProgramModel" ⟨"CompiledProgramModel", "isArithmetic", "()Z"⟩ ⟨"CompiledProgramModel", "isArithmetic", "()Z"⟩ : Cond) ∈ tB := tB_of (List.mem_append_left _ (List.mem_of_getElem? (i := 5) (by decide +kernel))) rfl
theorem ms_6 : (.selects "CompiledProgramModel" ⟨"CompiledProgramModel", "n", "()I"⟩ ⟨"CompiledProgramModel", "n", "()I"⟩ : Cond) ∈ tB := tB_of (List.mem_append_left _ (List.mem_of_getElem? (i := 6) (by decide +kernel))) rfl
theorem ms_7 : (.selects "CompiledProgramModel" ⟨"CompiledProgramModel", "bit3", "()Z"⟩ ⟨"CompiledProgramModel", "bit3", "()Z"⟩ : Cond) ∈ tB := tB_of (List.mem_append_left _ (List.mem_of_getElem? (i := 7) (by decide +kernel))) rfl
theorem ms_8 : (.selects "CompiledProgramModel" ⟨"CompiledProgramModel", "hasSource", "()Z"⟩ ⟨"CompiledProgramModel", "hasSource", "()Z"⟩ : Cond) ∈ tB := tB_of (List.mem_append_left _ (List.mem_of_getElem? (i := 8) (by decide +kernel))) rfl
theorem ms_9 : (.selects "CompiledProgramModel" ⟨"CompiledProgramModel", "isJump", "()Z"⟩ ⟨"CompiledProgramModel", "isJump", "()Z"⟩ : Cond) ∈ tB := tB_of (List.mem_append_left _ (List.mem_of_getElem? (i := 9) (by decide +kernel))) rfl
theorem ms_10 : (.selects "CompiledProgramModel" ⟨"CompiledProgramModel", "mode", "()I"⟩ ⟨"CompiledProgramModel", "mode", "()I"⟩ : Cond) ∈ tB := tB_of (List.mem_append_left _ (List.mem_of_getElem? (i := 10) (by decide +kernel))) rfl
theorem ms_11 : (.selects "CompiledProgramModel" ⟨"CompiledProgramModel", "size", "()I"⟩ ⟨"CompiledProgramModel", "size", "()I"⟩ : Cond) ∈ tB := tB_of (List.mem_append_left _ (List.mem_of_getElem? (i := 11) (by decide +kernel))) rfl
theorem ms_12 : (.selects "CompiledProgramModel" ⟨"CompiledProgramModel", "isAtomic", "()Z"⟩ ⟨"CompiledProgramModel", "isAtomic", "()Z"⟩ : Cond) ∈ tB := tB_of (List.mem_append_left _ (List.mem_of_getElem? (i := 12) (by decide +kernel))) rfl
theorem ms_13 : (.selects "CompiledProgramModel" ⟨"CompiledProgramModel", "isWide", "()Z"⟩ ⟨"CompiledProgramModel", "isWide", "()Z"⟩ : Cond) ∈ tB := tB_of (List.mem_append_left _ (List.mem_of_getElem? (i := 13) (by decide +kernel))) rfl
theorem mw_3 : (.initialized "CompiledProgram$Program" : Cond) ∈ tB := tB_of (List.mem_append_right _ (List.mem_of_getElem? (i := 3) (by decide +kernel))) rfl
theorem mw_4 : (.initialized "CompiledProgram$Machine" : Cond) ∈ tB := tB_of (List.mem_append_right _ (List.mem_of_getElem? (i := 4) (by decide +kernel))) rfl
theorem mw_5 : (.initialized "CompiledProgram$Memory" : Cond) ∈ tB := tB_of (List.mem_append_right _ (List.mem_of_getElem? (i := 5) (by decide +kernel))) rfl
theorem mw_6 : (.initialized "CompiledProgramModel" : Cond) ∈ tB := tB_of (List.mem_append_right _ (List.mem_of_getElem? (i := 6) (by decide +kernel))) rfl
theorem mw_15 : (.initialized "CompiledProgram$Form" : Cond) ∈ tB := tB_of (List.mem_append_right _ (List.mem_of_getElem? (i := 15) (by decide +kernel))) rfl
theorem mw_16 : (.initialized "CompiledProgram$Fields" : Cond) ∈ tB := tB_of (List.mem_append_right _ (List.mem_of_getElem? (i := 16) (by decide +kernel))) rfl
theorem mw_17 : (.initialized "CompiledProgram$Exchange" : Cond) ∈ tB := tB_of (List.mem_append_right _ (List.mem_of_getElem? (i := 17) (by decide +kernel))) rfl
theorem mw_19 : (.initialized "CompiledProgram$Arithmetic" : Cond) ∈ tB := tB_of (List.mem_append_right _ (List.mem_of_getElem? (i := 19) (by decide +kernel))) rfl
theorem mw_20 : (.initialized "java/lang/Long" : Cond) ∈ tB := tB_of (List.mem_append_right _ (List.mem_of_getElem? (i := 20) (by decide +kernel))) rfl
theorem mw_35 : (.fieldLink "CompiledProgram$Tape" 7 "CompiledProgram$Tape" "bytes" "[B" : Cond) ∈ tB := tB_of (List.mem_append_right _ (List.mem_of_getElem? (i := 35) (by decide +kernel))) rfl
theorem mw_36 : (.fieldLink "CompiledProgram$Tape" 13 "CompiledProgram$Tape" "length" "I" : Cond) ∈ tB := tB_of (List.mem_append_right _ (List.mem_of_getElem? (i := 36) (by decide +kernel))) rfl
theorem mw_51 : (.fieldLink "CompiledProgram$Program" 7 "CompiledProgram$Program" "row" "[J" : Cond) ∈ tB := tB_of (List.mem_append_right _ (List.mem_of_getElem? (i := 51) (by decide +kernel))) rfl
theorem mw_52 : (.fieldLink "CompiledProgram$Program" 13 "CompiledProgram$Program" "count" "I" : Cond) ∈ tB := tB_of (List.mem_append_right _ (List.mem_of_getElem? (i := 52) (by decide +kernel))) rfl
theorem mw_53 : (.fieldLink "CompiledProgram$Form" 9 "CompiledProgram$Program" "count" "I" : Cond) ∈ tB := tB_of (List.mem_append_right _ (List.mem_of_getElem? (i := 53) (by decide +kernel))) rfl
theorem mw_73 : (.fieldLink "CompiledProgram$Memory" 9 "CompiledProgram$Memory" "bytes" "[B" : Cond) ∈ tB := tB_of (List.mem_append_right _ (List.mem_of_getElem? (i := 73) (by decide +kernel))) rfl
theorem mw_77 : (.fieldLink "CompiledProgram$Machine" 7 "CompiledProgram$Machine" "registers" "[J" : Cond) ∈ tB := tB_of (List.mem_append_right _ (List.mem_of_getElem? (i := 77) (by decide +kernel))) rfl
theorem mw_79 : (.fieldLink "CompiledProgram$Machine" 16 "CompiledProgram$Machine" "memory" "LCompiledProgram$Memory;" : Cond) ∈ tB := tB_of (List.mem_append_right _ (List.mem_of_getElem? (i := 79) (by decide +kernel))) rfl
theorem mw_120 : (.methodLink "CompiledProgram$Form" 15 ⟨"CompiledProgram$Program", "at", "(I)J"⟩ : Cond) ∈ tB := tB_of (List.mem_append_right _ (List.mem_of_getElem? (i := 120) (by decide +kernel))) rfl
theorem mw_121 : (.instanceMethod ⟨"CompiledProgram$Program", "at", "(I)J"⟩ : Cond) ∈ tB := tB_of (List.mem_append_right _ (List.mem_of_getElem? (i := 121) (by decide +kernel))) rfl
theorem mw_122 : (.selects "CompiledProgram$Program" ⟨"CompiledProgram$Program", "at", "(I)J"⟩ ⟨"CompiledProgram$Program", "at", "(I)J"⟩ : Cond) ∈ tB := tB_of (List.mem_append_right _ (List.mem_of_getElem? (i := 122) (by decide +kernel))) rfl
set_option maxRecDepth 100000 in
theorem mw_123 : (.code ⟨"CompiledProgram$Program", "at", "(I)J"⟩ prog_8_method_4_code 2 (some FieldType.long) : Cond) ∈ tB := tB_of (List.mem_append_right _ (List.mem_of_getElem? (i := 123) rfl)) rfl
theorem mw_124 : (.methodLink "CompiledProgram$Program" 32 ⟨"CompiledProgram$Program", "has", "(J)Z"⟩ : Cond) ∈ tB := tB_of (List.mem_append_right _ (List.mem_of_getElem? (i := 124) (by decide +kernel))) rfl
theorem mw_125 : (.instanceMethod ⟨"CompiledProgram$Program", "has", "(J)Z"⟩ : Cond) ∈ tB := tB_of (List.mem_append_right _ (List.mem_of_getElem? (i := 125) (by decide +kernel))) rfl
theorem mw_126 : (.selects "CompiledProgram$Program" ⟨"CompiledProgram$Program", "has", "(J)Z"⟩ ⟨"CompiledProgram$Program", "has", "(J)Z"⟩ : Cond) ∈ tB := tB_of (List.mem_append_right _ (List.mem_of_getElem? (i := 126) (by decide +kernel))) rfl
set_option maxRecDepth 100000 in
theorem mw_127 : (.code ⟨"CompiledProgram$Program", "has", "(J)Z"⟩ prog_8_method_3_code 3 (some FieldType.boolean) : Cond) ∈ tB := tB_of (List.mem_append_right _ (List.mem_of_getElem? (i := 127) rfl)) rfl
theorem mw_128 : (.methodLink "CompiledProgram$Form" 19 ⟨"CompiledProgram$Form", "isInstruction", "(J)Z"⟩ : Cond) ∈ tB := tB_of (List.mem_append_right _ (List.mem_of_getElem? (i := 128) (by decide +kernel))) rfl
theorem mw_129 : (.static ⟨"CompiledProgram$Form", "isInstruction", "(J)Z"⟩ : Cond) ∈ tB := tB_of (List.mem_append_right _ (List.mem_of_getElem? (i := 129) (by decide +kernel))) rfl
set_option maxRecDepth 100000 in
theorem mw_130 : (.code ⟨"CompiledProgram$Form", "isInstruction", "(J)Z"⟩ prog_5_method_6_code 2 (some FieldType.boolean) : Cond) ∈ tB := tB_of (List.mem_append_right _ (List.mem_of_getElem? (i := 130) rfl)) rfl
theorem mw_131 : (.methodLink "CompiledProgram$Form" 62 ⟨"CompiledProgram$Fields", "kind", "(J)I"⟩ : Cond) ∈ tB := tB_of (List.mem_append_right _ (List.mem_of_getElem? (i := 131) (by decide +kernel))) rfl
theorem mw_132 : (.static ⟨"CompiledProgram$Fields", "kind", "(J)I"⟩ : Cond) ∈ tB := tB_of (List.mem_append_right _ (List.mem_of_getElem? (i := 132) (by decide +kernel))) rfl
set_option maxRecDepth 100000 in
theorem mw_133 : (.code ⟨"CompiledProgram$Fields", "kind", "(J)I"⟩ prog_4_method_3_code 2 (some FieldType.int) : Cond) ∈ tB := tB_of (List.mem_append_right _ (List.mem_of_getElem? (i := 133) rfl)) rfl
theorem mw_134 : (.methodLink "CompiledProgram$Form" 65 ⟨"CompiledProgram$Form", "isFirstOfTwo", "(J)Z"⟩ : Cond) ∈ tB := tB_of (List.mem_append_right _ (List.mem_of_getElem? (i := 134) (by decide +kernel))) rfl
theorem mw_135 : (.static ⟨"CompiledProgram$Form", "isFirstOfTwo", "(J)Z"⟩ : Cond) ∈ tB := tB_of (List.mem_append_right _ (List.mem_of_getElem? (i := 135) (by decide +kernel))) rfl
set_option maxRecDepth 100000 in
theorem mw_136 : (.code ⟨"CompiledProgram$Form", "isFirstOfTwo", "(J)Z"⟩ prog_5_method_7_code 3 (some FieldType.boolean) : Cond) ∈ tB := tB_of (List.mem_append_right _ (List.mem_of_getElem? (i := 136) rfl)) rfl
theorem mw_137 : (.methodLink "CompiledProgram$Form" 92 ⟨"CompiledProgram$Fields", "source", "(J)I"⟩ : Cond) ∈ tB := tB_of (List.mem_append_right _ (List.mem_of_getElem? (i := 137) (by decide +kernel))) rfl
theorem mw_138 : (.static ⟨"CompiledProgram$Fields", "source", "(J)I"⟩ : Cond) ∈ tB := tB_of (List.mem_append_right _ (List.mem_of_getElem? (i := 138) (by decide +kernel))) rfl
set_option maxRecDepth 100000 in
theorem mw_139 : (.code ⟨"CompiledProgram$Fields", "source", "(J)I"⟩ prog_4_method_9_code 2 (some FieldType.int) : Cond) ∈ tB := tB_of (List.mem_append_right _ (List.mem_of_getElem? (i := 139) rfl)) rfl
theorem mw_140 : (.methodLink "CompiledProgram$Form" 25 ⟨"CompiledProgram$Fields", "isTwoPlaces", "(J)Z"⟩ : Cond) ∈ tB := tB_of (List.mem_append_right _ (List.mem_of_getElem? (i := 140) (by decide +kernel))) rfl
theorem mw_141 : (.static ⟨"CompiledProgram$Fields", "isTwoPlaces", "(J)Z"⟩ : Cond) ∈ tB := tB_of (List.mem_append_right _ (List.mem_of_getElem? (i := 141) (by decide +kernel))) rfl
set_option maxRecDepth 100000 in
theorem mw_142 : (.code ⟨"CompiledProgram$Fields", "isTwoPlaces", "(J)Z"⟩ prog_4_method_12_code 2 (some FieldType.boolean) : Cond) ∈ tB := tB_of (List.mem_append_right _ (List.mem_of_getElem? (i := 142) rfl)) rfl
theorem mw_143 : (.methodLink "CompiledProgram$Fields" 9 ⟨"CompiledProgram$Fields", "code", "(J)I"⟩ : Cond) ∈ tB := tB_of (List.mem_append_right _ (List.mem_of_getElem? (i := 143) (by decide +kernel))) rfl
theorem mw_144 : (.static ⟨"CompiledProgram$Fields", "code", "(J)I"⟩ : Cond) ∈ tB := tB_of (List.mem_append_right _ (List.mem_of_getElem? (i := 144) (by decide +kernel))) rfl
set_option maxRecDepth 100000 in
theorem mw_145 : (.code ⟨"CompiledProgram$Fields", "code", "(J)I"⟩ prog_4_method_2_code 2 (some FieldType.int) : Cond) ∈ tB := tB_of (List.mem_append_right _ (List.mem_of_getElem? (i := 145) rfl)) rfl
theorem mw_146 : (.methodLink "CompiledProgram$Form" 95 ⟨"CompiledProgram$Fields", "target", "(J)I"⟩ : Cond) ∈ tB := tB_of (List.mem_append_right _ (List.mem_of_getElem? (i := 146) (by decide +kernel))) rfl
theorem mw_147 : (.static ⟨"CompiledProgram$Fields", "target", "(J)I"⟩ : Cond) ∈ tB := tB_of (List.mem_append_right _ (List.mem_of_getElem? (i := 147) (by decide +kernel))) rfl
set_option maxRecDepth 100000 in
theorem mw_148 : (.code ⟨"CompiledProgram$Fields", "target", "(J)I"⟩ prog_4_method_8_code 2 (some FieldType.int) : Cond) ∈ tB := tB_of (List.mem_append_right _ (List.mem_of_getElem? (i := 148) rfl)) rfl
theorem mw_149 : (.methodLink "CompiledProgram$Form" 98 ⟨"CompiledProgram$Fields", "offset", "(J)I"⟩ : Cond) ∈ tB := tB_of (List.mem_append_right _ (List.mem_of_getElem? (i := 149) (by decide +kernel))) rfl
theorem mw_150 : (.static ⟨"CompiledProgram$Fields", "offset", "(J)I"⟩ : Cond) ∈ tB := tB_of (List.mem_append_right _ (List.mem_of_getElem? (i := 150) (by decide +kernel))) rfl
set_option maxRecDepth 100000 in
theorem mw_151 : (.code ⟨"CompiledProgram$Fields", "offset", "(J)I"⟩ prog_4_method_10_code 2 (some FieldType.int) : Cond) ∈ tB := tB_of (List.mem_append_right _ (List.mem_of_getElem? (i := 151) rfl)) rfl
theorem mw_152 : (.methodLink "CompiledProgram$Form" 101 ⟨"CompiledProgram$Fields", "immediate", "(J)I"⟩ : Cond) ∈ tB := tB_of (List.mem_append_right _ (List.mem_of_getElem? (i := 152) (by decide +kernel))) rfl
theorem mw_153 : (.static ⟨"CompiledProgram$Fields", "immediate", "(J)I"⟩ : Cond) ∈ tB := tB_of (List.mem_append_right _ (List.mem_of_getElem? (i := 153) (by decide +kernel))) rfl
set_option maxRecDepth 100000 in
theorem mw_154 : (.code ⟨"CompiledProgram$Fields", "immediate", "(J)I"⟩ prog_4_method_11_code 2 (some FieldType.int) : Cond) ∈ tB := tB_of (List.mem_append_right _ (List.mem_of_getElem? (i := 154) rfl)) rfl
theorem mw_155 : (.methodLink "CompiledProgram$Form" 68 ⟨"CompiledProgram$Form", "isRead", "(J)Z"⟩ : Cond) ∈ tB := tB_of (List.mem_append_right _ (List.mem_of_getElem? (i := 155) (by decide +kernel))) rfl
theorem mw_156 : (.static ⟨"CompiledProgram$Form", "isRead", "(J)Z"⟩ : Cond) ∈ tB := tB_of (List.mem_append_right _ (List.mem_of_getElem? (i := 156) (by decide +kernel))) rfl
set_option maxRecDepth 100000 in
theorem mw_157 : (.code ⟨"CompiledProgram$Form", "isRead", "(J)Z"⟩ prog_5_method_9_code 3 (some FieldType.boolean) : Cond) ∈ tB := tB_of (List.mem_append_right _ (List.mem_of_getElem? (i := 157) rfl)) rfl
theorem mw_158 : (.methodLink "CompiledProgram$Form" 74 ⟨"CompiledProgram$Fields", "mode", "(J)I"⟩ : Cond) ∈ tB := tB_of (List.mem_append_right _ (List.mem_of_getElem? (i := 158) (by decide +kernel))) rfl
theorem mw_159 : (.static ⟨"CompiledProgram$Fields", "mode", "(J)I"⟩ : Cond) ∈ tB := tB_of (List.mem_append_right _ (List.mem_of_getElem? (i := 159) (by decide +kernel))) rfl
set_option maxRecDepth 100000 in
theorem mw_160 : (.code ⟨"CompiledProgram$Fields", "mode", "(J)I"⟩ prog_4_method_6_code 2 (some FieldType.int) : Cond) ∈ tB := tB_of (List.mem_append_right _ (List.mem_of_getElem? (i := 160) rfl)) rfl
theorem mw_161 : (.methodLink "CompiledProgram$Form" 104 ⟨"CompiledProgram$Fields", "size", "(J)I"⟩ : Cond) ∈ tB := tB_of (List.mem_append_right _ (List.mem_of_getElem? (i := 161) (by decide +kernel))) rfl
theorem mw_162 : (.static ⟨"CompiledProgram$Fields", "size", "(J)I"⟩ : Cond) ∈ tB := tB_of (List.mem_append_right _ (List.mem_of_getElem? (i := 162) (by decide +kernel))) rfl
set_option maxRecDepth 100000 in
theorem mw_163 : (.code ⟨"CompiledProgram$Fields", "size", "(J)I"⟩ prog_4_method_7_code 2 (some FieldType.int) : Cond) ∈ tB := tB_of (List.mem_append_right _ (List.mem_of_getElem? (i := 163) rfl)) rfl
theorem mw_164 : (.methodLink "CompiledProgram$Form" 71 ⟨"CompiledProgram$Form", "isWriteOfNumber", "(J)Z"⟩ : Cond) ∈ tB := tB_of (List.mem_append_right _ (List.mem_of_getElem? (i := 164) (by decide +kernel))) rfl
theorem mw_165 : (.static ⟨"CompiledProgram$Form", "isWriteOfNumber", "(J)Z"⟩ : Cond) ∈ tB := tB_of (List.mem_append_right _ (List.mem_of_getElem? (i := 165) (by decide +kernel))) rfl
set_option maxRecDepth 100000 in
theorem mw_166 : (.code ⟨"CompiledProgram$Form", "isWriteOfNumber", "(J)Z"⟩ prog_5_method_10_code 2 (some FieldType.boolean) : Cond) ∈ tB := tB_of (List.mem_append_right _ (List.mem_of_getElem? (i := 166) rfl)) rfl
theorem mw_167 : (.methodLink "CompiledProgram$Form" 77 ⟨"CompiledProgram$Form", "isExchange", "(J)Z"⟩ : Cond) ∈ tB := tB_of (List.mem_append_right _ (List.mem_of_getElem? (i := 167) (by decide +kernel))) rfl
theorem mw_168 : (.static ⟨"CompiledProgram$Form", "isExchange", "(J)Z"⟩ : Cond) ∈ tB := tB_of (List.mem_append_right _ (List.mem_of_getElem? (i := 168) (by decide +kernel))) rfl
set_option maxRecDepth 100000 in
theorem mw_169 : (.code ⟨"CompiledProgram$Form", "isExchange", "(J)Z"⟩ prog_5_method_12_code 2 (some FieldType.boolean) : Cond) ∈ tB := tB_of (List.mem_append_right _ (List.mem_of_getElem? (i := 169) rfl)) rfl
theorem mw_170 : (.methodLink "CompiledProgram$Form" 107 ⟨"CompiledProgram$Exchange", "isKnown", "(I)Z"⟩ : Cond) ∈ tB := tB_of (List.mem_append_right _ (List.mem_of_getElem? (i := 170) (by decide +kernel))) rfl
theorem mw_171 : (.static ⟨"CompiledProgram$Exchange", "isKnown", "(I)Z"⟩ : Cond) ∈ tB := tB_of (List.mem_append_right _ (List.mem_of_getElem? (i := 171) (by decide +kernel))) rfl
set_option maxRecDepth 100000 in
theorem mw_172 : (.code ⟨"CompiledProgram$Exchange", "isKnown", "(I)Z"⟩ prog_3_method_2_code 1 (some FieldType.boolean) : Cond) ∈ tB := tB_of (List.mem_append_right _ (List.mem_of_getElem? (i := 172) rfl)) rfl
theorem mw_173 : (.methodLink "CompiledProgram$Form" 113 ⟨"CompiledProgram$Exchange", "changesSource", "(I)Z"⟩ : Cond) ∈ tB := tB_of (List.mem_append_right _ (List.mem_of_getElem? (i := 173) (by decide +kernel))) rfl
theorem mw_174 : (.static ⟨"CompiledProgram$Exchange", "changesSource", "(I)Z"⟩ : Cond) ∈ tB := tB_of (List.mem_append_right _ (List.mem_of_getElem? (i := 174) (by decide +kernel))) rfl
set_option maxRecDepth 100000 in
theorem mw_175 : (.code ⟨"CompiledProgram$Exchange", "changesSource", "(I)Z"⟩ prog_3_method_3_code 1 (some FieldType.boolean) : Cond) ∈ tB := tB_of (List.mem_append_right _ (List.mem_of_getElem? (i := 175) rfl)) rfl
theorem mw_176 : (.methodLink "CompiledProgram$Form" 80 ⟨"CompiledProgram$Form", "isWriteOfRegister", "(J)Z"⟩ : Cond) ∈ tB := tB_of (List.mem_append_right _ (List.mem_of_getElem? (i := 176) (by decide +kernel))) rfl
theorem mw_177 : (.static ⟨"CompiledProgram$Form", "isWriteOfRegister", "(J)Z"⟩ : Cond) ∈ tB := tB_of (List.mem_append_right _ (List.mem_of_getElem? (i := 177) (by decide +kernel))) rfl
set_option maxRecDepth 100000 in
theorem mw_178 : (.code ⟨"CompiledProgram$Form", "isWriteOfRegister", "(J)Z"⟩ prog_5_method_11_code 2 (some FieldType.boolean) : Cond) ∈ tB := tB_of (List.mem_append_right _ (List.mem_of_getElem? (i := 178) rfl)) rfl
theorem mw_179 : (.methodLink "CompiledProgram$Form" 55 ⟨"CompiledProgram$Fields", "jumpsPerhaps", "(J)Z"⟩ : Cond) ∈ tB := tB_of (List.mem_append_right _ (List.mem_of_getElem? (i := 179) (by decide +kernel))) rfl
theorem mw_180 : (.static ⟨"CompiledProgram$Fields", "jumpsPerhaps", "(J)Z"⟩ : Cond) ∈ tB := tB_of (List.mem_append_right _ (List.mem_of_getElem? (i := 180) (by decide +kernel))) rfl
set_option maxRecDepth 100000 in
theorem mw_181 : (.code ⟨"CompiledProgram$Fields", "jumpsPerhaps", "(J)Z"⟩ prog_4_method_16_code 4 (some FieldType.boolean) : Cond) ∈ tB := tB_of (List.mem_append_right _ (List.mem_of_getElem? (i := 181) rfl)) rfl
theorem mw_182 : (.methodLink "CompiledProgram$Fields" 15 ⟨"CompiledProgram$Fields", "operation", "(J)I"⟩ : Cond) ∈ tB := tB_of (List.mem_append_right _ (List.mem_of_getElem? (i := 182) (by decide +kernel))) rfl
theorem mw_183 : (.static ⟨"CompiledProgram$Fields", "operation", "(J)I"⟩ : Cond) ∈ tB := tB_of (List.mem_append_right _ (List.mem_of_getElem? (i := 183) (by decide +kernel))) rfl
set_option maxRecDepth 100000 in
theorem mw_184 : (.code ⟨"CompiledProgram$Fields", "operation", "(J)I"⟩ prog_4_method_4_code 2 (some FieldType.int) : Cond) ∈ tB := tB_of (List.mem_append_right _ (List.mem_of_getElem? (i := 184) rfl)) rfl
theorem mw_185 : (.methodLink "CompiledProgram$Fields" 18 ⟨"CompiledProgram$Fields", "kind", "(J)I"⟩ : Cond) ∈ tB := tB_of (List.mem_append_right _ (List.mem_of_getElem? (i := 185) (by decide +kernel))) rfl
theorem mw_186 : (.methodLink "CompiledProgram$Form" 83 ⟨"CompiledProgram$Form", "isPerhapsJump", "(J)Z"⟩ : Cond) ∈ tB := tB_of (List.mem_append_right _ (List.mem_of_getElem? (i := 186) (by decide +kernel))) rfl
theorem mw_187 : (.static ⟨"CompiledProgram$Form", "isPerhapsJump", "(J)Z"⟩ : Cond) ∈ tB := tB_of (List.mem_append_right _ (List.mem_of_getElem? (i := 187) (by decide +kernel))) rfl
set_option maxRecDepth 100000 in
theorem mw_188 : (.code ⟨"CompiledProgram$Form", "isPerhapsJump", "(J)Z"⟩ prog_5_method_13_code 2 (some FieldType.boolean) : Cond) ∈ tB := tB_of (List.mem_append_right _ (List.mem_of_getElem? (i := 188) rfl)) rfl
theorem mw_189 : (.methodLink "CompiledProgram$Form" 116 ⟨"CompiledProgram$Form", "hasOperand", "(J)Z"⟩ : Cond) ∈ tB := tB_of (List.mem_append_right _ (List.mem_of_getElem? (i := 189) (by decide +kernel))) rfl
theorem mw_190 : (.static ⟨"CompiledProgram$Form", "hasOperand", "(J)Z"⟩ : Cond) ∈ tB := tB_of (List.mem_append_right _ (List.mem_of_getElem? (i := 190) (by decide +kernel))) rfl
set_option maxRecDepth 100000 in
theorem mw_191 : (.code ⟨"CompiledProgram$Form", "hasOperand", "(J)Z"⟩ prog_5_method_15_code 2 (some FieldType.boolean) : Cond) ∈ tB := tB_of (List.mem_append_right _ (List.mem_of_getElem? (i := 191) rfl)) rfl
theorem mw_192 : (.methodLink "CompiledProgram$Form" 119 ⟨"CompiledProgram$Fields", "usesSource", "(J)Z"⟩ : Cond) ∈ tB := tB_of (List.mem_append_right _ (List.mem_of_getElem? (i := 192) (by decide +kernel))) rfl
theorem mw_193 : (.static ⟨"CompiledProgram$Fields", "usesSource", "(J)Z"⟩ : Cond) ∈ tB := tB_of (List.mem_append_right _ (List.mem_of_getElem? (i := 193) (by decide +kernel))) rfl
set_option maxRecDepth 100000 in
theorem mw_194 : (.code ⟨"CompiledProgram$Fields", "usesSource", "(J)Z"⟩ prog_4_method_5_code 2 (some FieldType.boolean) : Cond) ∈ tB := tB_of (List.mem_append_right _ (List.mem_of_getElem? (i := 194) rfl)) rfl
theorem mw_195 : (.constantLong "CompiledProgram$Fields" 7 8 : Cond) ∈ tB := tB_of (List.mem_append_right _ (List.mem_of_getElem? (i := 195) (by decide +kernel))) rfl
theorem mw_196 : (.methodLink "CompiledProgram$Form" 86 ⟨"CompiledProgram$Form", "isCallOrExitOrJump", "(J)Z"⟩ : Cond) ∈ tB := tB_of (List.mem_append_right _ (List.mem_of_getElem? (i := 196) (by decide +kernel))) rfl
theorem mw_197 : (.static ⟨"CompiledProgram$Form", "isCallOrExitOrJump", "(J)Z"⟩ : Cond) ∈ tB := tB_of (List.mem_append_right _ (List.mem_of_getElem? (i := 197) (by decide +kernel))) rfl
set_option maxRecDepth 100000 in
theorem mw_198 : (.code ⟨"CompiledProgram$Form", "isCallOrExitOrJump", "(J)Z"⟩ prog_5_method_14_code 2 (some FieldType.boolean) : Cond) ∈ tB := tB_of (List.mem_append_right _ (List.mem_of_getElem? (i := 198) rfl)) rfl
theorem mw_199 : (.methodLink "CompiledProgram$Form" 58 ⟨"CompiledProgram$Fields", "code", "(J)I"⟩ : Cond) ∈ tB := tB_of (List.mem_append_right _ (List.mem_of_getElem? (i := 199) (by decide +kernel))) rfl
theorem mw_200 : (.methodLink "CompiledProgram$Form" 89 ⟨"CompiledProgram$Form", "isArithmetic", "(J)Z"⟩ : Cond) ∈ tB := tB_of (List.mem_append_right _ (List.mem_of_getElem? (i := 200) (by decide +kernel))) rfl
theorem mw_201 : (.static ⟨"CompiledProgram$Form", "isArithmetic", "(J)Z"⟩ : Cond) ∈ tB := tB_of (List.mem_append_right _ (List.mem_of_getElem? (i := 201) (by decide +kernel))) rfl
set_option maxRecDepth 100000 in
theorem mw_202 : (.code ⟨"CompiledProgram$Form", "isArithmetic", "(J)Z"⟩ prog_5_method_16_code 2 (some FieldType.boolean) : Cond) ∈ tB := tB_of (List.mem_append_right _ (List.mem_of_getElem? (i := 202) rfl)) rfl
theorem mw_203 : (.methodLink "CompiledProgram$Form" 122 ⟨"CompiledProgram$Fields", "operation", "(J)I"⟩ : Cond) ∈ tB := tB_of (List.mem_append_right _ (List.mem_of_getElem? (i := 203) (by decide +kernel))) rfl
theorem mw_204 : (.methodLink "CompiledProgram$Form" 125 ⟨"CompiledProgram$Form", "isMoveOffset", "(J)Z"⟩ : Cond) ∈ tB := tB_of (List.mem_append_right _ (List.mem_of_getElem? (i := 204) (by decide +kernel))) rfl
theorem mw_205 : (.static ⟨"CompiledProgram$Form", "isMoveOffset", "(J)Z"⟩ : Cond) ∈ tB := tB_of (List.mem_append_right _ (List.mem_of_getElem? (i := 205) (by decide +kernel))) rfl
set_option maxRecDepth 100000 in
theorem mw_206 : (.code ⟨"CompiledProgram$Form", "isMoveOffset", "(J)Z"⟩ prog_5_method_17_code 2 (some FieldType.boolean) : Cond) ∈ tB := tB_of (List.mem_append_right _ (List.mem_of_getElem? (i := 206) rfl)) rfl
theorem mw_207 : (.methodLink "CompiledProgram$Form" 128 ⟨"CompiledProgram$Form", "isTurning", "(J)Z"⟩ : Cond) ∈ tB := tB_of (List.mem_append_right _ (List.mem_of_getElem? (i := 207) (by decide +kernel))) rfl
theorem mw_208 : (.static ⟨"CompiledProgram$Form", "isTurning", "(J)Z"⟩ : Cond) ∈ tB := tB_of (List.mem_append_right _ (List.mem_of_getElem? (i := 208) (by decide +kernel))) rfl
set_option maxRecDepth 100000 in
theorem mw_209 : (.code ⟨"CompiledProgram$Form", "isTurning", "(J)Z"⟩ prog_5_method_18_code 3 (some FieldType.boolean) : Cond) ∈ tB := tB_of (List.mem_append_right _ (List.mem_of_getElem? (i := 209) rfl)) rfl
theorem mw_210 : (.methodLink "CompiledProgram$Form" 30 ⟨"CompiledProgram$Program", "has", "(J)Z"⟩ : Cond) ∈ tB := tB_of (List.mem_append_right _ (List.mem_of_getElem? (i := 210) (by decide +kernel))) rfl
theorem mw_211 : (.methodLink "CompiledProgram$Form" 33 ⟨"CompiledProgram$Form", "isSecondOf", "(JJ)Z"⟩ : Cond) ∈ tB := tB_of (List.mem_append_right _ (List.mem_of_getElem? (i := 211) (by decide +kernel))) rfl
theorem mw_212 : (.static ⟨"CompiledProgram$Form", "isSecondOf", "(JJ)Z"⟩ : Cond) ∈ tB := tB_of (List.mem_append_right _ (List.mem_of_getElem? (i := 212) (by decide +kernel))) rfl
set_option maxRecDepth 100000 in
theorem mw_213 : (.code ⟨"CompiledProgram$Form", "isSecondOf", "(JJ)Z"⟩ prog_5_method_8_code 5 (some FieldType.boolean) : Cond) ∈ tB := tB_of (List.mem_append_right _ (List.mem_of_getElem? (i := 213) rfl)) rfl
theorem mw_217 : (.methodLink "CompiledProgram$Form" 37 ⟨"CompiledProgram$Form", "goesOnRightly", "(LCompiledProgram$Program;IJ)Z"⟩ : Cond) ∈ tB := tB_of (List.mem_append_right _ (List.mem_of_getElem? (i := 217) (by decide +kernel))) rfl
theorem mw_218 : (.static ⟨"CompiledProgram$Form", "goesOnRightly", "(LCompiledProgram$Program;IJ)Z"⟩ : Cond) ∈ tB := tB_of (List.mem_append_right _ (List.mem_of_getElem? (i := 218) (by decide +kernel))) rfl
set_option maxRecDepth 100000 in
theorem mw_219 : (.code ⟨"CompiledProgram$Form", "goesOnRightly", "(LCompiledProgram$Program;IJ)Z"⟩ prog_5_method_4_code 4 (some FieldType.boolean) : Cond) ∈ tB := tB_of (List.mem_append_right _ (List.mem_of_getElem? (i := 219) rfl)) rfl
theorem mw_220 : (.methodLink "CompiledProgram$Form" 41 ⟨"CompiledProgram$Fields", "isExit", "(J)Z"⟩ : Cond) ∈ tB := tB_of (List.mem_append_right _ (List.mem_of_getElem? (i := 220) (by decide +kernel))) rfl
theorem mw_221 : (.static ⟨"CompiledProgram$Fields", "isExit", "(J)Z"⟩ : Cond) ∈ tB := tB_of (List.mem_append_right _ (List.mem_of_getElem? (i := 221) (by decide +kernel))) rfl
set_option maxRecDepth 100000 in
theorem mw_222 : (.code ⟨"CompiledProgram$Fields", "isExit", "(J)Z"⟩ prog_4_method_13_code 2 (some FieldType.boolean) : Cond) ∈ tB := tB_of (List.mem_append_right _ (List.mem_of_getElem? (i := 222) rfl)) rfl
theorem mw_223 : (.methodLink "CompiledProgram$Form" 44 ⟨"CompiledProgram$Fields", "jumpsAlways", "(J)Z"⟩ : Cond) ∈ tB := tB_of (List.mem_append_right _ (List.mem_of_getElem? (i := 223) (by decide +kernel))) rfl
theorem mw_224 : (.static ⟨"CompiledProgram$Fields", "jumpsAlways", "(J)Z"⟩ : Cond) ∈ tB := tB_of (List.mem_append_right _ (List.mem_of_getElem? (i := 224) (by decide +kernel))) rfl
set_option maxRecDepth 100000 in
theorem mw_225 : (.code ⟨"CompiledProgram$Fields", "jumpsAlways", "(J)Z"⟩ prog_4_method_15_code 2 (some FieldType.boolean) : Cond) ∈ tB := tB_of (List.mem_append_right _ (List.mem_of_getElem? (i := 225) rfl)) rfl
theorem mw_226 : (.methodLink "CompiledProgram$Form" 47 ⟨"CompiledProgram$Fields", "jumpFrom", "(IJ)J"⟩ : Cond) ∈ tB := tB_of (List.mem_append_right _ (List.mem_of_getElem? (i := 226) (by decide +kernel))) rfl
theorem mw_227 : (.static ⟨"CompiledProgram$Fields", "jumpFrom", "(IJ)J"⟩ : Cond) ∈ tB := tB_of (List.mem_append_right _ (List.mem_of_getElem? (i := 227) (by decide +kernel))) rfl
set_option maxRecDepth 100000 in
theorem mw_228 : (.code ⟨"CompiledProgram$Fields", "jumpFrom", "(IJ)J"⟩ prog_4_method_17_code 3 (some FieldType.long) : Cond) ∈ tB := tB_of (List.mem_append_right _ (List.mem_of_getElem? (i := 228) rfl)) rfl
theorem mw_229 : (.methodLink "CompiledProgram$Fields" 21 ⟨"CompiledProgram$Fields", "immediate", "(J)I"⟩ : Cond) ∈ tB := tB_of (List.mem_append_right _ (List.mem_of_getElem? (i := 229) (by decide +kernel))) rfl
theorem mw_230 : (.methodLink "CompiledProgram$Fields" 24 ⟨"CompiledProgram$Fields", "offset", "(J)I"⟩ : Cond) ∈ tB := tB_of (List.mem_append_right _ (List.mem_of_getElem? (i := 230) (by decide +kernel))) rfl
theorem mw_231 : (.methodLink "CompiledProgram$Form" 51 ⟨"CompiledProgram$Form", "isStart", "(LCompiledProgram$Program;J)Z"⟩ : Cond) ∈ tB := tB_of (List.mem_append_right _ (List.mem_of_getElem? (i := 231) (by decide +kernel))) rfl
theorem mw_232 : (.static ⟨"CompiledProgram$Form", "isStart", "(LCompiledProgram$Program;J)Z"⟩ : Cond) ∈ tB := tB_of (List.mem_append_right _ (List.mem_of_getElem? (i := 232) (by decide +kernel))) rfl
set_option maxRecDepth 100000 in
theorem mw_233 : (.code ⟨"CompiledProgram$Form", "isStart", "(LCompiledProgram$Program;J)Z"⟩ prog_5_method_5_code 3 (some FieldType.boolean) : Cond) ∈ tB := tB_of (List.mem_append_right _ (List.mem_of_getElem? (i := 233) rfl)) rfl
theorem mw_258 : (.constant "CompiledProgram$Tape" 17 32768 : Cond) ∈ tB := tB_of (List.mem_append_right _ (List.mem_of_getElem? (i := 258) (by decide +kernel))) rfl
theorem mw_414 : (.instanceMethod ⟨"CompiledProgram$Memory", "holds", "(JI)Z"⟩ : Cond) ∈ tB := tB_of (List.mem_append_right _ (List.mem_of_getElem? (i := 414) (by decide +kernel))) rfl
theorem mw_415 : (.selects "CompiledProgram$Memory" ⟨"CompiledProgram$Memory", "holds", "(JI)Z"⟩ ⟨"CompiledProgram$Memory", "holds", "(JI)Z"⟩ : Cond) ∈ tB := tB_of (List.mem_append_right _ (List.mem_of_getElem? (i := 415) (by decide +kernel))) rfl
set_option maxRecDepth 100000 in
theorem mw_416 : (.code ⟨"CompiledProgram$Memory", "holds", "(JI)Z"⟩ prog_7_method_2_code 6 (some FieldType.boolean) : Cond) ∈ tB := tB_of (List.mem_append_right _ (List.mem_of_getElem? (i := 416) rfl)) rfl
theorem mw_417 : (.constantLong "CompiledProgram$Memory" 13 2147483648 : Cond) ∈ tB := tB_of (List.mem_append_right _ (List.mem_of_getElem? (i := 417) (by decide +kernel))) rfl
theorem mw_420 : (.instanceMethod ⟨"CompiledProgram$Memory", "write", "(JIJ)V"⟩ : Cond) ∈ tB := tB_of (List.mem_append_right _ (List.mem_of_getElem? (i := 420) (by decide +kernel))) rfl
theorem mw_421 : (.selects "CompiledProgram$Memory" ⟨"CompiledProgram$Memory", "write", "(JIJ)V"⟩ ⟨"CompiledProgram$Memory", "write", "(JIJ)V"⟩ : Cond) ∈ tB := tB_of (List.mem_append_right _ (List.mem_of_getElem? (i := 421) (by decide +kernel))) rfl
set_option maxRecDepth 100000 in
theorem mw_422 : (.code ⟨"CompiledProgram$Memory", "write", "(JIJ)V"⟩ prog_7_method_4_code 8 (none : Option FieldType) : Cond) ∈ tB := tB_of (List.mem_append_right _ (List.mem_of_getElem? (i := 422) rfl)) rfl
theorem mw_423 : (.methodLink "CompiledProgram$Memory" 15 ⟨"CompiledProgram$Memory", "holds", "(JI)Z"⟩ : Cond) ∈ tB := tB_of (List.mem_append_right _ (List.mem_of_getElem? (i := 423) (by decide +kernel))) rfl
theorem mw_432 : (.instanceMethod ⟨"CompiledProgram$Memory", "read", "(JI)J"⟩ : Cond) ∈ tB := tB_of (List.mem_append_right _ (List.mem_of_getElem? (i := 432) (by decide +kernel))) rfl
theorem mw_433 : (.selects "CompiledProgram$Memory" ⟨"CompiledProgram$Memory", "read", "(JI)J"⟩ ⟨"CompiledProgram$Memory", "read", "(JI)J"⟩ : Cond) ∈ tB := tB_of (List.mem_append_right _ (List.mem_of_getElem? (i := 433) (by decide +kernel))) rfl
set_option maxRecDepth 100000 in
theorem mw_434 : (.code ⟨"CompiledProgram$Memory", "read", "(JI)J"⟩ prog_7_method_3_code 8 (some FieldType.long) : Cond) ∈ tB := tB_of (List.mem_append_right _ (List.mem_of_getElem? (i := 434) rfl)) rfl
theorem mw_449 : (.methodLink "CompiledProgram$Machine" 20 ⟨"CompiledProgram$Program", "at", "(I)J"⟩ : Cond) ∈ tB := tB_of (List.mem_append_right _ (List.mem_of_getElem? (i := 449) (by decide +kernel))) rfl
theorem mw_450 : (.methodLink "CompiledProgram$Machine" 26 ⟨"CompiledProgram$Fields", "kind", "(J)I"⟩ : Cond) ∈ tB := tB_of (List.mem_append_right _ (List.mem_of_getElem? (i := 450) (by decide +kernel))) rfl
theorem mw_451 : (.methodLink "CompiledProgram$Machine" 32 ⟨"CompiledProgram$Machine", "takeTwoPlaces", "(JJ)V"⟩ : Cond) ∈ tB := tB_of (List.mem_append_right _ (List.mem_of_getElem? (i := 451) (by decide +kernel))) rfl
theorem mw_452 : (.instanceMethod ⟨"CompiledProgram$Machine", "takeTwoPlaces", "(JJ)V"⟩ : Cond) ∈ tB := tB_of (List.mem_append_right _ (List.mem_of_getElem? (i := 452) (by decide +kernel))) rfl
theorem mw_453 : (.selects "CompiledProgram$Machine" ⟨"CompiledProgram$Machine", "takeTwoPlaces", "(JJ)V"⟩ ⟨"CompiledProgram$Machine", "takeTwoPlaces", "(JJ)V"⟩ : Cond) ∈ tB := tB_of (List.mem_append_right _ (List.mem_of_getElem? (i := 453) (by decide +kernel))) rfl
set_option maxRecDepth 100000 in
theorem mw_454 : (.code ⟨"CompiledProgram$Machine", "takeTwoPlaces", "(JJ)V"⟩ prog_6_method_6_code 7 (none : Option FieldType) : Cond) ∈ tB := tB_of (List.mem_append_right _ (List.mem_of_getElem? (i := 454) rfl)) rfl
theorem mw_455 : (.methodLink "CompiledProgram$Machine" 40 ⟨"CompiledProgram$Fields", "immediate", "(J)I"⟩ : Cond) ∈ tB := tB_of (List.mem_append_right _ (List.mem_of_getElem? (i := 455) (by decide +kernel))) rfl
theorem mw_456 : (.methodLink "CompiledProgram$Machine" 61 ⟨"CompiledProgram$Fields", "target", "(J)I"⟩ : Cond) ∈ tB := tB_of (List.mem_append_right _ (List.mem_of_getElem? (i := 456) (by decide +kernel))) rfl
theorem mw_457 : (.methodLink "CompiledProgram$Machine" 73 ⟨"CompiledProgram$Arithmetic", "lowest", "(JI)J"⟩ : Cond) ∈ tB := tB_of (List.mem_append_right _ (List.mem_of_getElem? (i := 457) (by decide +kernel))) rfl
theorem mw_458 : (.static ⟨"CompiledProgram$Arithmetic", "lowest", "(JI)J"⟩ : Cond) ∈ tB := tB_of (List.mem_append_right _ (List.mem_of_getElem? (i := 458) (by decide +kernel))) rfl
set_option maxRecDepth 100000 in
theorem mw_459 : (.code ⟨"CompiledProgram$Arithmetic", "lowest", "(JI)J"⟩ prog_2_method_7_code 3 (some FieldType.long) : Cond) ∈ tB := tB_of (List.mem_append_right _ (List.mem_of_getElem? (i := 459) rfl)) rfl
theorem mw_460 : (.methodLink "CompiledProgram$Machine" 36 ⟨"CompiledProgram$Machine", "read", "(J)Z"⟩ : Cond) ∈ tB := tB_of (List.mem_append_right _ (List.mem_of_getElem? (i := 460) (by decide +kernel))) rfl
theorem mw_461 : (.instanceMethod ⟨"CompiledProgram$Machine", "read", "(J)Z"⟩ : Cond) ∈ tB := tB_of (List.mem_append_right _ (List.mem_of_getElem? (i := 461) (by decide +kernel))) rfl
theorem mw_462 : (.selects "CompiledProgram$Machine" ⟨"CompiledProgram$Machine", "read", "(J)Z"⟩ ⟨"CompiledProgram$Machine", "read", "(J)Z"⟩ : Cond) ∈ tB := tB_of (List.mem_append_right _ (List.mem_of_getElem? (i := 462) (by decide +kernel))) rfl
set_option maxRecDepth 100000 in
theorem mw_463 : (.code ⟨"CompiledProgram$Machine", "read", "(J)Z"⟩ prog_6_method_7_code 8 (some FieldType.boolean) : Cond) ∈ tB := tB_of (List.mem_append_right _ (List.mem_of_getElem? (i := 463) rfl)) rfl
theorem mw_464 : (.methodLink "CompiledProgram$Machine" 79 ⟨"CompiledProgram$Fields", "size", "(J)I"⟩ : Cond) ∈ tB := tB_of (List.mem_append_right _ (List.mem_of_getElem? (i := 464) (by decide +kernel))) rfl
theorem mw_465 : (.methodLink "CompiledProgram$Machine" 53 ⟨"CompiledProgram$Machine", "y", "(J)J"⟩ : Cond) ∈ tB := tB_of (List.mem_append_right _ (List.mem_of_getElem? (i := 465) (by decide +kernel))) rfl
theorem mw_466 : (.instanceMethod ⟨"CompiledProgram$Machine", "y", "(J)J"⟩ : Cond) ∈ tB := tB_of (List.mem_append_right _ (List.mem_of_getElem? (i := 466) (by decide +kernel))) rfl
theorem mw_467 : (.selects "CompiledProgram$Machine" ⟨"CompiledProgram$Machine", "y", "(J)J"⟩ ⟨"CompiledProgram$Machine", "y", "(J)J"⟩ : Cond) ∈ tB := tB_of (List.mem_append_right _ (List.mem_of_getElem? (i := 467) (by decide +kernel))) rfl
set_option maxRecDepth 100000 in
theorem mw_468 : (.code ⟨"CompiledProgram$Machine", "y", "(J)J"⟩ prog_6_method_4_code 3 (some FieldType.long) : Cond) ∈ tB := tB_of (List.mem_append_right _ (List.mem_of_getElem? (i := 468) rfl)) rfl
theorem mw_469 : (.methodLink "CompiledProgram$Machine" 67 ⟨"CompiledProgram$Fields", "source", "(J)I"⟩ : Cond) ∈ tB := tB_of (List.mem_append_right _ (List.mem_of_getElem? (i := 469) (by decide +kernel))) rfl
theorem mw_470 : (.methodLink "CompiledProgram$Machine" 82 ⟨"CompiledProgram$Fields", "offset", "(J)I"⟩ : Cond) ∈ tB := tB_of (List.mem_append_right _ (List.mem_of_getElem? (i := 470) (by decide +kernel))) rfl
theorem mw_471 : (.methodLink "CompiledProgram$Machine" 85 ⟨"CompiledProgram$Memory", "holds", "(JI)Z"⟩ : Cond) ∈ tB := tB_of (List.mem_append_right _ (List.mem_of_getElem? (i := 471) (by decide +kernel))) rfl
theorem mw_472 : (.methodLink "CompiledProgram$Machine" 89 ⟨"CompiledProgram$Memory", "read", "(JI)J"⟩ : Cond) ∈ tB := tB_of (List.mem_append_right _ (List.mem_of_getElem? (i := 472) (by decide +kernel))) rfl
theorem mw_473 : (.methodLink "CompiledProgram$Machine" 47 ⟨"CompiledProgram$Fields", "mode", "(J)I"⟩ : Cond) ∈ tB := tB_of (List.mem_append_right _ (List.mem_of_getElem? (i := 473) (by decide +kernel))) rfl
theorem mw_474 : (.methodLink "CompiledProgram$Machine" 91 ⟨"CompiledProgram$Arithmetic", "signed", "(JI)J"⟩ : Cond) ∈ tB := tB_of (List.mem_append_right _ (List.mem_of_getElem? (i := 474) (by decide +kernel))) rfl
theorem mw_475 : (.static ⟨"CompiledProgram$Arithmetic", "signed", "(JI)J"⟩ : Cond) ∈ tB := tB_of (List.mem_append_right _ (List.mem_of_getElem? (i := 475) (by decide +kernel))) rfl
set_option maxRecDepth 100000 in
theorem mw_476 : (.code ⟨"CompiledProgram$Arithmetic", "signed", "(JI)J"⟩ prog_2_method_8_code 3 (some FieldType.long) : Cond) ∈ tB := tB_of (List.mem_append_right _ (List.mem_of_getElem? (i := 476) rfl)) rfl
theorem mw_477 : (.methodLink "CompiledProgram$Machine" 43 ⟨"CompiledProgram$Machine", "write", "(JJ)Z"⟩ : Cond) ∈ tB := tB_of (List.mem_append_right _ (List.mem_of_getElem? (i := 477) (by decide +kernel))) rfl
theorem mw_478 : (.instanceMethod ⟨"CompiledProgram$Machine", "write", "(JJ)Z"⟩ : Cond) ∈ tB := tB_of (List.mem_append_right _ (List.mem_of_getElem? (i := 478) (by decide +kernel))) rfl
theorem mw_479 : (.selects "CompiledProgram$Machine" ⟨"CompiledProgram$Machine", "write", "(JJ)Z"⟩ ⟨"CompiledProgram$Machine", "write", "(JJ)Z"⟩ : Cond) ∈ tB := tB_of (List.mem_append_right _ (List.mem_of_getElem? (i := 479) (by decide +kernel))) rfl
set_option maxRecDepth 100000 in
theorem mw_480 : (.code ⟨"CompiledProgram$Machine", "write", "(JJ)Z"⟩ prog_6_method_8_code 8 (some FieldType.boolean) : Cond) ∈ tB := tB_of (List.mem_append_right _ (List.mem_of_getElem? (i := 480) rfl)) rfl
theorem mw_481 : (.methodLink "CompiledProgram$Machine" 94 ⟨"CompiledProgram$Machine", "x", "(J)J"⟩ : Cond) ∈ tB := tB_of (List.mem_append_right _ (List.mem_of_getElem? (i := 481) (by decide +kernel))) rfl
theorem mw_482 : (.instanceMethod ⟨"CompiledProgram$Machine", "x", "(J)J"⟩ : Cond) ∈ tB := tB_of (List.mem_append_right _ (List.mem_of_getElem? (i := 482) (by decide +kernel))) rfl
theorem mw_483 : (.selects "CompiledProgram$Machine" ⟨"CompiledProgram$Machine", "x", "(J)J"⟩ ⟨"CompiledProgram$Machine", "x", "(J)J"⟩ : Cond) ∈ tB := tB_of (List.mem_append_right _ (List.mem_of_getElem? (i := 483) (by decide +kernel))) rfl
set_option maxRecDepth 100000 in
theorem mw_484 : (.code ⟨"CompiledProgram$Machine", "x", "(J)J"⟩ prog_6_method_3_code 3 (some FieldType.long) : Cond) ∈ tB := tB_of (List.mem_append_right _ (List.mem_of_getElem? (i := 484) rfl)) rfl
theorem mw_485 : (.methodLink "CompiledProgram$Machine" 97 ⟨"CompiledProgram$Memory", "write", "(JIJ)V"⟩ : Cond) ∈ tB := tB_of (List.mem_append_right _ (List.mem_of_getElem? (i := 485) (by decide +kernel))) rfl
theorem mw_486 : (.methodLink "CompiledProgram$Machine" 50 ⟨"CompiledProgram$Machine", "exchange", "(J)Z"⟩ : Cond) ∈ tB := tB_of (List.mem_append_right _ (List.mem_of_getElem? (i := 486) (by decide +kernel))) rfl
theorem mw_487 : (.instanceMethod ⟨"CompiledProgram$Machine", "exchange", "(J)Z"⟩ : Cond) ∈ tB := tB_of (List.mem_append_right _ (List.mem_of_getElem? (i := 487) (by decide +kernel))) rfl
theorem mw_488 : (.selects "CompiledProgram$Machine" ⟨"CompiledProgram$Machine", "exchange", "(J)Z"⟩ ⟨"CompiledProgram$Machine", "exchange", "(J)Z"⟩ : Cond) ∈ tB := tB_of (List.mem_append_right _ (List.mem_of_getElem? (i := 488) (by decide +kernel))) rfl
set_option maxRecDepth 100000 in
theorem mw_489 : (.code ⟨"CompiledProgram$Machine", "exchange", "(J)Z"⟩ prog_6_method_9_code 10 (some FieldType.boolean) : Cond) ∈ tB := tB_of (List.mem_append_right _ (List.mem_of_getElem? (i := 489) rfl)) rfl
theorem mw_490 : (.methodLink "CompiledProgram$Machine" 100 ⟨"CompiledProgram$Exchange", "become", "(IJJZ)J"⟩ : Cond) ∈ tB := tB_of (List.mem_append_right _ (List.mem_of_getElem? (i := 490) (by decide +kernel))) rfl
theorem mw_491 : (.static ⟨"CompiledProgram$Exchange", "become", "(IJJZ)J"⟩ : Cond) ∈ tB := tB_of (List.mem_append_right _ (List.mem_of_getElem? (i := 491) (by decide +kernel))) rfl
set_option maxRecDepth 100000 in
theorem mw_492 : (.code ⟨"CompiledProgram$Exchange", "become", "(IJJZ)J"⟩ prog_3_method_4_code 6 (some FieldType.long) : Cond) ∈ tB := tB_of (List.mem_append_right _ (List.mem_of_getElem? (i := 492) rfl)) rfl
theorem mw_493 : (.methodLink "CompiledProgram$Machine" 106 ⟨"CompiledProgram$Exchange", "changesSource", "(I)Z"⟩ : Cond) ∈ tB := tB_of (List.mem_append_right _ (List.mem_of_getElem? (i := 493) (by decide +kernel))) rfl
theorem mw_494 : (.methodLink "CompiledProgram$Machine" 57 ⟨"CompiledProgram$Machine", "jump", "(IJ)I"⟩ : Cond) ∈ tB := tB_of (List.mem_append_right _ (List.mem_of_getElem? (i := 494) (by decide +kernel))) rfl
theorem mw_495 : (.instanceMethod ⟨"CompiledProgram$Machine", "jump", "(IJ)I"⟩ : Cond) ∈ tB := tB_of (List.mem_append_right _ (List.mem_of_getElem? (i := 495) (by decide +kernel))) rfl
theorem mw_496 : (.selects "CompiledProgram$Machine" ⟨"CompiledProgram$Machine", "jump", "(IJ)I"⟩ ⟨"CompiledProgram$Machine", "jump", "(IJ)I"⟩ : Cond) ∈ tB := tB_of (List.mem_append_right _ (List.mem_of_getElem? (i := 496) (by decide +kernel))) rfl
set_option maxRecDepth 100000 in
theorem mw_497 : (.code ⟨"CompiledProgram$Machine", "jump", "(IJ)I"⟩ prog_6_method_10_code 4 (some FieldType.int) : Cond) ∈ tB := tB_of (List.mem_append_right _ (List.mem_of_getElem? (i := 497) rfl)) rfl
theorem mw_498 : (.methodLink "CompiledProgram$Machine" 110 ⟨"CompiledProgram$Fields", "isExit", "(J)Z"⟩ : Cond) ∈ tB := tB_of (List.mem_append_right _ (List.mem_of_getElem? (i := 498) (by decide +kernel))) rfl
theorem mw_499 : (.methodLink "CompiledProgram$Machine" 113 ⟨"CompiledProgram$Fields", "isCall", "(J)Z"⟩ : Cond) ∈ tB := tB_of (List.mem_append_right _ (List.mem_of_getElem? (i := 499) (by decide +kernel))) rfl
theorem mw_500 : (.static ⟨"CompiledProgram$Fields", "isCall", "(J)Z"⟩ : Cond) ∈ tB := tB_of (List.mem_append_right _ (List.mem_of_getElem? (i := 500) (by decide +kernel))) rfl
set_option maxRecDepth 100000 in
theorem mw_501 : (.code ⟨"CompiledProgram$Fields", "isCall", "(J)Z"⟩ prog_4_method_14_code 2 (some FieldType.boolean) : Cond) ∈ tB := tB_of (List.mem_append_right _ (List.mem_of_getElem? (i := 501) rfl)) rfl
theorem mw_502 : (.methodLink "CompiledProgram$Machine" 116 ⟨"CompiledProgram$Machine", "answerCall", "(I)V"⟩ : Cond) ∈ tB := tB_of (List.mem_append_right _ (List.mem_of_getElem? (i := 502) (by decide +kernel))) rfl
theorem mw_503 : (.instanceMethod ⟨"CompiledProgram$Machine", "answerCall", "(I)V"⟩ : Cond) ∈ tB := tB_of (List.mem_append_right _ (List.mem_of_getElem? (i := 503) (by decide +kernel))) rfl
theorem mw_504 : (.selects "CompiledProgram$Machine" ⟨"CompiledProgram$Machine", "answerCall", "(I)V"⟩ ⟨"CompiledProgram$Machine", "answerCall", "(I)V"⟩ : Cond) ∈ tB := tB_of (List.mem_append_right _ (List.mem_of_getElem? (i := 504) (by decide +kernel))) rfl
set_option maxRecDepth 100000 in
theorem mw_505 : (.code ⟨"CompiledProgram$Machine", "answerCall", "(I)V"⟩ prog_6_method_12_code 5 (none : Option FieldType) : Cond) ∈ tB := tB_of (List.mem_append_right _ (List.mem_of_getElem? (i := 505) rfl)) rfl
theorem mw_506 : (.constantLong "CompiledProgram$Machine" 140 31 : Cond) ∈ tB := tB_of (List.mem_append_right _ (List.mem_of_getElem? (i := 506) (by decide +kernel))) rfl
theorem mw_507 : (.methodLink "CompiledProgram$Machine" 120 ⟨"CompiledProgram$Fields", "jumpsAlways", "(J)Z"⟩ : Cond) ∈ tB := tB_of (List.mem_append_right _ (List.mem_of_getElem? (i := 507) (by decide +kernel))) rfl
theorem mw_508 : (.methodLink "CompiledProgram$Machine" 123 ⟨"CompiledProgram$Machine", "takesJump", "(J)Z"⟩ : Cond) ∈ tB := tB_of (List.mem_append_right _ (List.mem_of_getElem? (i := 508) (by decide +kernel))) rfl
theorem mw_509 : (.instanceMethod ⟨"CompiledProgram$Machine", "takesJump", "(J)Z"⟩ : Cond) ∈ tB := tB_of (List.mem_append_right _ (List.mem_of_getElem? (i := 509) (by decide +kernel))) rfl
theorem mw_510 : (.selects "CompiledProgram$Machine" ⟨"CompiledProgram$Machine", "takesJump", "(J)Z"⟩ ⟨"CompiledProgram$Machine", "takesJump", "(J)Z"⟩ : Cond) ∈ tB := tB_of (List.mem_append_right _ (List.mem_of_getElem? (i := 510) (by decide +kernel))) rfl
set_option maxRecDepth 100000 in
theorem mw_511 : (.code ⟨"CompiledProgram$Machine", "takesJump", "(J)Z"⟩ prog_6_method_11_code 7 (some FieldType.boolean) : Cond) ∈ tB := tB_of (List.mem_append_right _ (List.mem_of_getElem? (i := 511) rfl)) rfl
theorem mw_512 : (.methodLink "CompiledProgram$Machine" 130 ⟨"CompiledProgram$Machine", "operand", "(J)J"⟩ : Cond) ∈ tB := tB_of (List.mem_append_right _ (List.mem_of_getElem? (i := 512) (by decide +kernel))) rfl
theorem mw_513 : (.instanceMethod ⟨"CompiledProgram$Machine", "operand", "(J)J"⟩ : Cond) ∈ tB := tB_of (List.mem_append_right _ (List.mem_of_getElem? (i := 513) (by decide +kernel))) rfl
theorem mw_514 : (.selects "CompiledProgram$Machine" ⟨"CompiledProgram$Machine", "operand", "(J)J"⟩ ⟨"CompiledProgram$Machine", "operand", "(J)J"⟩ : Cond) ∈ tB := tB_of (List.mem_append_right _ (List.mem_of_getElem? (i := 514) (by decide +kernel))) rfl
set_option maxRecDepth 100000 in
theorem mw_515 : (.code ⟨"CompiledProgram$Machine", "operand", "(J)J"⟩ prog_6_method_5_code 3 (some FieldType.long) : Cond) ∈ tB := tB_of (List.mem_append_right _ (List.mem_of_getElem? (i := 515) rfl)) rfl
theorem mw_516 : (.methodLink "CompiledProgram$Machine" 70 ⟨"CompiledProgram$Fields", "usesSource", "(J)Z"⟩ : Cond) ∈ tB := tB_of (List.mem_append_right _ (List.mem_of_getElem? (i := 516) (by decide +kernel))) rfl
theorem mw_517 : (.methodLink "CompiledProgram$Machine" 133 ⟨"CompiledProgram$Fields", "operation", "(J)I"⟩ : Cond) ∈ tB := tB_of (List.mem_append_right _ (List.mem_of_getElem? (i := 517) (by decide +kernel))) rfl
theorem mw_518 : (.methodLink "CompiledProgram$Machine" 136 ⟨"CompiledProgram$Arithmetic", "isTaken", "(IJJ)Z"⟩ : Cond) ∈ tB := tB_of (List.mem_append_right _ (List.mem_of_getElem? (i := 518) (by decide +kernel))) rfl
theorem mw_519 : (.static ⟨"CompiledProgram$Arithmetic", "isTaken", "(IJJ)Z"⟩ : Cond) ∈ tB := tB_of (List.mem_append_right _ (List.mem_of_getElem? (i := 519) (by decide +kernel))) rfl
set_option maxRecDepth 100000 in
theorem mw_520 : (.code ⟨"CompiledProgram$Arithmetic", "isTaken", "(IJJ)Z"⟩ prog_2_method_10_code 9 (some FieldType.boolean) : Cond) ∈ tB := tB_of (List.mem_append_right _ (List.mem_of_getElem? (i := 520) rfl)) rfl
theorem mw_521 : (.constantLong "CompiledProgram$Arithmetic" 33 (-9223372036854775808) : Cond) ∈ tB := tB_of (List.mem_append_right _ (List.mem_of_getElem? (i := 521) (by decide +kernel))) rfl
theorem mw_522 : (.methodLink "CompiledProgram$Machine" 126 ⟨"CompiledProgram$Fields", "jumpFrom", "(IJ)J"⟩ : Cond) ∈ tB := tB_of (List.mem_append_right _ (List.mem_of_getElem? (i := 522) (by decide +kernel))) rfl
theorem mw_523 : (.methodLink "CompiledProgram$Machine" 64 ⟨"CompiledProgram$Machine", "computed", "(J)J"⟩ : Cond) ∈ tB := tB_of (List.mem_append_right _ (List.mem_of_getElem? (i := 523) (by decide +kernel))) rfl
theorem mw_524 : (.instanceMethod ⟨"CompiledProgram$Machine", "computed", "(J)J"⟩ : Cond) ∈ tB := tB_of (List.mem_append_right _ (List.mem_of_getElem? (i := 524) (by decide +kernel))) rfl
theorem mw_525 : (.selects "CompiledProgram$Machine" ⟨"CompiledProgram$Machine", "computed", "(J)J"⟩ ⟨"CompiledProgram$Machine", "computed", "(J)J"⟩ : Cond) ∈ tB := tB_of (List.mem_append_right _ (List.mem_of_getElem? (i := 525) (by decide +kernel))) rfl
set_option maxRecDepth 100000 in
theorem mw_526 : (.code ⟨"CompiledProgram$Machine", "computed", "(J)J"⟩ prog_6_method_13_code 4 (some FieldType.long) : Cond) ∈ tB := tB_of (List.mem_append_right _ (List.mem_of_getElem? (i := 526) rfl)) rfl
theorem mw_527 : (.methodLink "CompiledProgram$Machine" 142 ⟨"CompiledProgram$Machine", "turnedOrCut", "(J)J"⟩ : Cond) ∈ tB := tB_of (List.mem_append_right _ (List.mem_of_getElem? (i := 527) (by decide +kernel))) rfl
theorem mw_528 : (.instanceMethod ⟨"CompiledProgram$Machine", "turnedOrCut", "(J)J"⟩ : Cond) ∈ tB := tB_of (List.mem_append_right _ (List.mem_of_getElem? (i := 528) (by decide +kernel))) rfl
theorem mw_529 : (.selects "CompiledProgram$Machine" ⟨"CompiledProgram$Machine", "turnedOrCut", "(J)J"⟩ ⟨"CompiledProgram$Machine", "turnedOrCut", "(J)J"⟩ : Cond) ∈ tB := tB_of (List.mem_append_right _ (List.mem_of_getElem? (i := 529) (by decide +kernel))) rfl
set_option maxRecDepth 100000 in
theorem mw_530 : (.code ⟨"CompiledProgram$Machine", "turnedOrCut", "(J)J"⟩ prog_6_method_14_code 5 (some FieldType.long) : Cond) ∈ tB := tB_of (List.mem_append_right _ (List.mem_of_getElem? (i := 530) rfl)) rfl
theorem mw_531 : (.methodLink "CompiledProgram$Machine" 153 ⟨"CompiledProgram$Arithmetic", "turned", "(JI)J"⟩ : Cond) ∈ tB := tB_of (List.mem_append_right _ (List.mem_of_getElem? (i := 531) (by decide +kernel))) rfl
theorem mw_532 : (.static ⟨"CompiledProgram$Arithmetic", "turned", "(JI)J"⟩ : Cond) ∈ tB := tB_of (List.mem_append_right _ (List.mem_of_getElem? (i := 532) (by decide +kernel))) rfl
set_option maxRecDepth 100000 in
theorem mw_533 : (.code ⟨"CompiledProgram$Arithmetic", "turned", "(JI)J"⟩ prog_2_method_9_code 3 (some FieldType.long) : Cond) ∈ tB := tB_of (List.mem_append_right _ (List.mem_of_getElem? (i := 533) rfl)) rfl
theorem mw_534 : (.methodLink "CompiledProgram$Arithmetic" 35 ⟨"java/lang/Long", "reverseBytes", "(J)J"⟩ : Cond) ∈ tB := tB_of (List.mem_append_right _ (List.mem_of_getElem? (i := 534) (by decide +kernel))) rfl
theorem mw_535 : (.static ⟨"java/lang/Long", "reverseBytes", "(J)J"⟩ : Cond) ∈ tB := tB_of (List.mem_append_right _ (List.mem_of_getElem? (i := 535) (by decide +kernel))) rfl
set_option maxRecDepth 100000 in
theorem mw_536 : (.code ⟨"java/lang/Long", "reverseBytes", "(J)J"⟩ prog_17_method_58_code 2 (some FieldType.long) : Cond) ∈ tB := tB_of (List.mem_append_right _ (List.mem_of_getElem? (i := 536) rfl)) rfl
theorem mw_537 : (.constantLong "java/lang/Long" 327 71777214294589695 : Cond) ∈ tB := tB_of (List.mem_append_right _ (List.mem_of_getElem? (i := 537) (by decide +kernel))) rfl
theorem mw_538 : (.constantLong "java/lang/Long" 329 4294901760 : Cond) ∈ tB := tB_of (List.mem_append_right _ (List.mem_of_getElem? (i := 538) (by decide +kernel))) rfl
theorem mw_539 : (.methodLink "CompiledProgram$Machine" 145 ⟨"CompiledProgram$Arithmetic", "wide", "(IIJJ)J"⟩ : Cond) ∈ tB := tB_of (List.mem_append_right _ (List.mem_of_getElem? (i := 539) (by decide +kernel))) rfl
theorem mw_540 : (.static ⟨"CompiledProgram$Arithmetic", "wide", "(IIJJ)J"⟩ : Cond) ∈ tB := tB_of (List.mem_append_right _ (List.mem_of_getElem? (i := 540) (by decide +kernel))) rfl
set_option maxRecDepth 100000 in
theorem mw_541 : (.code ⟨"CompiledProgram$Arithmetic", "wide", "(IIJJ)J"⟩ prog_2_method_2_code 6 (some FieldType.long) : Cond) ∈ tB := tB_of (List.mem_append_right _ (List.mem_of_getElem? (i := 541) rfl)) rfl
theorem mw_542 : (.methodLink "CompiledProgram$Arithmetic" 7 ⟨"CompiledProgram$Arithmetic", "quotient", "(ZJJ)J"⟩ : Cond) ∈ tB := tB_of (List.mem_append_right _ (List.mem_of_getElem? (i := 542) (by decide +kernel))) rfl
theorem mw_543 : (.static ⟨"CompiledProgram$Arithmetic", "quotient", "(ZJJ)J"⟩ : Cond) ∈ tB := tB_of (List.mem_append_right _ (List.mem_of_getElem? (i := 543) (by decide +kernel))) rfl
set_option maxRecDepth 100000 in
theorem mw_544 : (.code ⟨"CompiledProgram$Arithmetic", "quotient", "(ZJJ)J"⟩ prog_2_method_4_code 5 (some FieldType.long) : Cond) ∈ tB := tB_of (List.mem_append_right _ (List.mem_of_getElem? (i := 544) rfl)) rfl
theorem mw_545 : (.methodLink "CompiledProgram$Arithmetic" 29 ⟨"CompiledProgram$Arithmetic", "unsignedQuotient", "(JJ)J"⟩ : Cond) ∈ tB := tB_of (List.mem_append_right _ (List.mem_of_getElem? (i := 545) (by decide +kernel))) rfl
theorem mw_546 : (.static ⟨"CompiledProgram$Arithmetic", "unsignedQuotient", "(JJ)J"⟩ : Cond) ∈ tB := tB_of (List.mem_append_right _ (List.mem_of_getElem? (i := 546) (by decide +kernel))) rfl
set_option maxRecDepth 100000 in
theorem mw_547 : (.code ⟨"CompiledProgram$Arithmetic", "unsignedQuotient", "(JJ)J"⟩ prog_2_method_5_code 8 (some FieldType.long) : Cond) ∈ tB := tB_of (List.mem_append_right _ (List.mem_of_getElem? (i := 547) rfl)) rfl
theorem mw_548 : (.constantLong "CompiledProgram$Arithmetic" 13 63 : Cond) ∈ tB := tB_of (List.mem_append_right _ (List.mem_of_getElem? (i := 548) (by decide +kernel))) rfl
theorem mw_549 : (.methodLink "CompiledProgram$Arithmetic" 15 ⟨"CompiledProgram$Arithmetic", "rest", "(ZJJ)J"⟩ : Cond) ∈ tB := tB_of (List.mem_append_right _ (List.mem_of_getElem? (i := 549) (by decide +kernel))) rfl
theorem mw_550 : (.static ⟨"CompiledProgram$Arithmetic", "rest", "(ZJJ)J"⟩ : Cond) ∈ tB := tB_of (List.mem_append_right _ (List.mem_of_getElem? (i := 550) (by decide +kernel))) rfl
set_option maxRecDepth 100000 in
theorem mw_551 : (.code ⟨"CompiledProgram$Arithmetic", "rest", "(ZJJ)J"⟩ prog_2_method_6_code 5 (some FieldType.long) : Cond) ∈ tB := tB_of (List.mem_append_right _ (List.mem_of_getElem? (i := 551) rfl)) rfl
theorem mw_552 : (.methodLink "CompiledProgram$Arithmetic" 18 ⟨"CompiledProgram$Arithmetic", "signed", "(JI)J"⟩ : Cond) ∈ tB := tB_of (List.mem_append_right _ (List.mem_of_getElem? (i := 552) (by decide +kernel))) rfl
theorem mw_553 : (.methodLink "CompiledProgram$Machine" 149 ⟨"CompiledProgram$Arithmetic", "narrow", "(IIII)J"⟩ : Cond) ∈ tB := tB_of (List.mem_append_right _ (List.mem_of_getElem? (i := 553) (by decide +kernel))) rfl
theorem mw_554 : (.static ⟨"CompiledProgram$Arithmetic", "narrow", "(IIII)J"⟩ : Cond) ∈ tB := tB_of (List.mem_append_right _ (List.mem_of_getElem? (i := 554) (by decide +kernel))) rfl
set_option maxRecDepth 100000 in
theorem mw_555 : (.code ⟨"CompiledProgram$Arithmetic", "narrow", "(IIII)J"⟩ prog_2_method_3_code 4 (some FieldType.long) : Cond) ∈ tB := tB_of (List.mem_append_right _ (List.mem_of_getElem? (i := 555) rfl)) rfl
theorem mw_556 : (.methodLink "CompiledProgram$Arithmetic" 22 ⟨"CompiledProgram$Arithmetic", "lowest", "(JI)J"⟩ : Cond) ∈ tB := tB_of (List.mem_append_right _ (List.mem_of_getElem? (i := 556) (by decide +kernel))) rfl
theorem mw_557 : (.methodLink "CompiledProgram$Arithmetic" 25 ⟨"CompiledProgram$Arithmetic", "wide", "(IIJJ)J"⟩ : Cond) ∈ tB := tB_of (List.mem_append_right _ (List.mem_of_getElem? (i := 557) (by decide +kernel))) rfl
theorem mw_565 : (.fieldLink "CompiledProgramModel" 28 "CompiledProgramModel" "thrown" "I" : Cond) ∈ tB := tB_of (List.mem_append_right _ (List.mem_of_getElem? (i := 565) (by decide +kernel))) rfl
theorem mw_574 : (.fieldLink "CompiledProgramModel" 34 "CompiledProgramModel" "code" "I" : Cond) ∈ tB := tB_of (List.mem_append_right _ (List.mem_of_getElem? (i := 574) (by decide +kernel))) rfl
theorem mw_575 : (.fieldLink "CompiledProgramModel" 37 "CompiledProgramModel" "d" "I" : Cond) ∈ tB := tB_of (List.mem_append_right _ (List.mem_of_getElem? (i := 575) (by decide +kernel))) rfl
theorem mw_576 : (.fieldLink "CompiledProgramModel" 40 "CompiledProgramModel" "s" "I" : Cond) ∈ tB := tB_of (List.mem_append_right _ (List.mem_of_getElem? (i := 576) (by decide +kernel))) rfl
theorem mw_577 : (.fieldLink "CompiledProgramModel" 47 "CompiledProgramModel" "o" "I" : Cond) ∈ tB := tB_of (List.mem_append_right _ (List.mem_of_getElem? (i := 577) (by decide +kernel))) rfl
theorem mw_578 : (.fieldLink "CompiledProgramModel" 50 "CompiledProgramModel" "i" "I" : Cond) ∈ tB := tB_of (List.mem_append_right _ (List.mem_of_getElem? (i := 578) (by decide +kernel))) rfl
theorem mw_636 : (.methodLink "CompiledProgramModel" 70 ⟨"CompiledProgramModel", "take", "([II)V"⟩ : Cond) ∈ tB := tB_of (List.mem_append_right _ (List.mem_of_getElem? (i := 636) (by decide +kernel))) rfl
theorem mw_638 : (.instanceMethod ⟨"CompiledProgramModel", "take", "([II)V"⟩ : Cond) ∈ tB := tB_of (List.mem_append_right _ (List.mem_of_getElem? (i := 638) (by decide +kernel))) rfl
set_option maxRecDepth 100000 in
theorem mw_639 : (.code ⟨"CompiledProgramModel", "take", "([II)V"⟩ prog_11_method_6_code 3 (none : Option FieldType) : Cond) ∈ tB := tB_of (List.mem_append_right _ (List.mem_of_getElem? (i := 639) rfl)) rfl
theorem mw_640 : (.methodLink "CompiledProgramModel" 43 ⟨"CompiledProgramModel", "number", "([III)I"⟩ : Cond) ∈ tB := tB_of (List.mem_append_right _ (List.mem_of_getElem? (i := 640) (by decide +kernel))) rfl
theorem mw_641 : (.static ⟨"CompiledProgramModel", "number", "([III)I"⟩ : Cond) ∈ tB := tB_of (List.mem_append_right _ (List.mem_of_getElem? (i := 641) (by decide +kernel))) rfl
set_option maxRecDepth 100000 in
theorem mw_642 : (.code ⟨"CompiledProgramModel", "number", "([III)I"⟩ prog_11_method_5_code 5 (some FieldType.int) : Cond) ∈ tB := tB_of (List.mem_append_right _ (List.mem_of_getElem? (i := 642) rfl)) rfl
theorem mw_643 : (.methodLink "CompiledProgramModel" 57 ⟨"CompiledProgramModel", "kind", "()I"⟩ : Cond) ∈ tB := tB_of (List.mem_append_right _ (List.mem_of_getElem? (i := 643) (by decide +kernel))) rfl
theorem mw_645 : (.instanceMethod ⟨"CompiledProgramModel", "kind", "()I"⟩ : Cond) ∈ tB := tB_of (List.mem_append_right _ (List.mem_of_getElem? (i := 645) (by decide +kernel))) rfl
set_option maxRecDepth 100000 in
theorem mw_646 : (.code ⟨"CompiledProgramModel", "kind", "()I"⟩ prog_11_method_7_code 1 (some FieldType.int) : Cond) ∈ tB := tB_of (List.mem_append_right _ (List.mem_of_getElem? (i := 646) rfl)) rfl
theorem mw_647 : (.methodLink "CompiledProgramModel" 74 ⟨"CompiledProgramModel", "isArithmetic", "()Z"⟩ : Cond) ∈ tB := tB_of (List.mem_append_right _ (List.mem_of_getElem? (i := 647) (by decide +kernel))) rfl
theorem mw_649 : (.instanceMethod ⟨"CompiledProgramModel", "isArithmetic", "()Z"⟩ : Cond) ∈ tB := tB_of (List.mem_append_right _ (List.mem_of_getElem? (i := 649) (by decide +kernel))) rfl
set_option maxRecDepth 100000 in
theorem mw_650 : (.code ⟨"CompiledProgramModel", "isArithmetic", "()Z"⟩ prog_11_method_14_code 3 (some FieldType.boolean) : Cond) ∈ tB := tB_of (List.mem_append_right _ (List.mem_of_getElem? (i := 650) rfl)) rfl
theorem mw_651 : (.methodLink "CompiledProgramModel" 61 ⟨"CompiledProgramModel", "n", "()I"⟩ : Cond) ∈ tB := tB_of (List.mem_append_right _ (List.mem_of_getElem? (i := 651) (by decide +kernel))) rfl
theorem mw_653 : (.instanceMethod ⟨"CompiledProgramModel", "n", "()I"⟩ : Cond) ∈ tB := tB_of (List.mem_append_right _ (List.mem_of_getElem? (i := 653) (by decide +kernel))) rfl
set_option maxRecDepth 100000 in
theorem mw_654 : (.code ⟨"CompiledProgramModel", "n", "()I"⟩ prog_11_method_8_code 1 (some FieldType.int) : Cond) ∈ tB := tB_of (List.mem_append_right _ (List.mem_of_getElem? (i := 654) rfl)) rfl
theorem mw_655 : (.methodLink "CompiledProgramModel" 53 ⟨"CompiledProgramModel", "bit3", "()Z"⟩ : Cond) ∈ tB := tB_of (List.mem_append_right _ (List.mem_of_getElem? (i := 655) (by decide +kernel))) rfl
theorem mw_657 : (.instanceMethod ⟨"CompiledProgramModel", "bit3", "()Z"⟩ : Cond) ∈ tB := tB_of (List.mem_append_right _ (List.mem_of_getElem? (i := 657) (by decide +kernel))) rfl
set_option maxRecDepth 100000 in
theorem mw_658 : (.code ⟨"CompiledProgramModel", "bit3", "()Z"⟩ prog_11_method_9_code 1 (some FieldType.boolean) : Cond) ∈ tB := tB_of (List.mem_append_right _ (List.mem_of_getElem? (i := 658) rfl)) rfl
theorem mw_659 : (.methodLink "CompiledProgramModel" 64 ⟨"CompiledProgramModel", "hasSource", "()Z"⟩ : Cond) ∈ tB := tB_of (List.mem_append_right _ (List.mem_of_getElem? (i := 659) (by decide +kernel))) rfl
theorem mw_661 : (.instanceMethod ⟨"CompiledProgramModel", "hasSource", "()Z"⟩ : Cond) ∈ tB := tB_of (List.mem_append_right _ (List.mem_of_getElem? (i := 661) (by decide +kernel))) rfl
set_option maxRecDepth 100000 in
theorem mw_662 : (.code ⟨"CompiledProgramModel", "hasSource", "()Z"⟩ prog_11_method_13_code 1 (some FieldType.boolean) : Cond) ∈ tB := tB_of (List.mem_append_right _ (List.mem_of_getElem? (i := 662) rfl)) rfl
theorem mw_663 : (.methodLink "CompiledProgramModel" 77 ⟨"CompiledProgramModel", "isJump", "()Z"⟩ : Cond) ∈ tB := tB_of (List.mem_append_right _ (List.mem_of_getElem? (i := 663) (by decide +kernel))) rfl
theorem mw_665 : (.instanceMethod ⟨"CompiledProgramModel", "isJump", "()Z"⟩ : Cond) ∈ tB := tB_of (List.mem_append_right _ (List.mem_of_getElem? (i := 665) (by decide +kernel))) rfl
set_option maxRecDepth 100000 in
theorem mw_666 : (.code ⟨"CompiledProgramModel", "isJump", "()Z"⟩ prog_11_method_15_code 2 (some FieldType.boolean) : Cond) ∈ tB := tB_of (List.mem_append_right _ (List.mem_of_getElem? (i := 666) rfl)) rfl
theorem mw_667 : (.methodLink "CompiledProgramModel" 80 ⟨"CompiledProgramModel", "mode", "()I"⟩ : Cond) ∈ tB := tB_of (List.mem_append_right _ (List.mem_of_getElem? (i := 667) (by decide +kernel))) rfl
theorem mw_669 : (.instanceMethod ⟨"CompiledProgramModel", "mode", "()I"⟩ : Cond) ∈ tB := tB_of (List.mem_append_right _ (List.mem_of_getElem? (i := 669) (by decide +kernel))) rfl
set_option maxRecDepth 100000 in
theorem mw_670 : (.code ⟨"CompiledProgramModel", "mode", "()I"⟩ prog_11_method_11_code 1 (some FieldType.int) : Cond) ∈ tB := tB_of (List.mem_append_right _ (List.mem_of_getElem? (i := 670) rfl)) rfl
theorem mw_671 : (.methodLink "CompiledProgramModel" 67 ⟨"CompiledProgramModel", "size", "()I"⟩ : Cond) ∈ tB := tB_of (List.mem_append_right _ (List.mem_of_getElem? (i := 671) (by decide +kernel))) rfl
theorem mw_673 : (.instanceMethod ⟨"CompiledProgramModel", "size", "()I"⟩ : Cond) ∈ tB := tB_of (List.mem_append_right _ (List.mem_of_getElem? (i := 673) (by decide +kernel))) rfl
set_option maxRecDepth 100000 in
theorem mw_674 : (.code ⟨"CompiledProgramModel", "size", "()I"⟩ prog_11_method_10_code 2 (some FieldType.int) : Cond) ∈ tB := tB_of (List.mem_append_right _ (List.mem_of_getElem? (i := 674) rfl)) rfl
theorem mw_675 : (.methodLink "CompiledProgramModel" 83 ⟨"CompiledProgramModel", "isAtomic", "()Z"⟩ : Cond) ∈ tB := tB_of (List.mem_append_right _ (List.mem_of_getElem? (i := 675) (by decide +kernel))) rfl
theorem mw_677 : (.instanceMethod ⟨"CompiledProgramModel", "isAtomic", "()Z"⟩ : Cond) ∈ tB := tB_of (List.mem_append_right _ (List.mem_of_getElem? (i := 677) (by decide +kernel))) rfl
set_option maxRecDepth 100000 in
theorem mw_678 : (.code ⟨"CompiledProgramModel", "isAtomic", "()Z"⟩ prog_11_method_16_code 3 (some FieldType.boolean) : Cond) ∈ tB := tB_of (List.mem_append_right _ (List.mem_of_getElem? (i := 678) rfl)) rfl
theorem mw_679 : (.methodLink "CompiledProgramModel" 86 ⟨"CompiledProgramModel", "isWide", "()Z"⟩ : Cond) ∈ tB := tB_of (List.mem_append_right _ (List.mem_of_getElem? (i := 679) (by decide +kernel))) rfl
theorem mw_681 : (.instanceMethod ⟨"CompiledProgramModel", "isWide", "()Z"⟩ : Cond) ∈ tB := tB_of (List.mem_append_right _ (List.mem_of_getElem? (i := 681) (by decide +kernel))) rfl
set_option maxRecDepth 100000 in
theorem mw_682 : (.code ⟨"CompiledProgramModel", "isWide", "()Z"⟩ prog_11_method_12_code 1 (some FieldType.boolean) : Cond) ∈ tB := tB_of (List.mem_append_right _ (List.mem_of_getElem? (i := 682) rfl)) rfl
