theorem dAr_wide_0 : decode cAr_wide 0 = .ok (.iload_n 0, 1) := by decide +kernel
theorem dAr_wide_1 : decode cAr_wide 1 = .ok (.tableswitch 180 0 12 #[67, 72, 77, 82, 99, 104, 109, 119, 129, 132, 149, 154, 170], 67) := by decide +kernel
theorem dAr_wide_68 : decode cAr_wide 68 = .ok (.lload_n 2, 1) := by decide +kernel
theorem dAr_wide_69 : decode cAr_wide 69 = .ok (.lload 4, 2) := by decide +kernel
theorem dAr_wide_71 : decode cAr_wide 71 = .ok (.ladd, 1) := by decide +kernel
theorem dAr_wide_72 : decode cAr_wide 72 = .ok (.lreturn, 1) := by decide +kernel
theorem dAr_wide_73 : decode cAr_wide 73 = .ok (.lload_n 2, 1) := by decide +kernel
theorem dAr_wide_74 : decode cAr_wide 74 = .ok (.lload 4, 2) := by decide +kernel
theorem dAr_wide_76 : decode cAr_wide 76 = .ok (.lsub, 1) := by decide +kernel
theorem dAr_wide_77 : decode cAr_wide 77 = .ok (.lreturn, 1) := by decide +kernel
theorem dAr_wide_78 : decode cAr_wide 78 = .ok (.lload_n 2, 1) := by decide +kernel
theorem dAr_wide_79 : decode cAr_wide 79 = .ok (.lload 4, 2) := by decide +kernel
theorem dAr_wide_81 : decode cAr_wide 81 = .ok (.lmul, 1) := by decide +kernel
theorem dAr_wide_82 : decode cAr_wide 82 = .ok (.lreturn, 1) := by decide +kernel
theorem dAr_wide_83 : decode cAr_wide 83 = .ok (.iload_n 1, 1) := by decide +kernel
theorem dAr_wide_84 : decode cAr_wide 84 = .ok (.iconst 1, 1) := by decide +kernel
theorem dAr_wide_85 : decode cAr_wide 85 = .ok (.if_icmp .ne 7, 3) := by decide +kernel
theorem dAr_wide_88 : decode cAr_wide 88 = .ok (.iconst 1, 1) := by decide +kernel
theorem dAr_wide_89 : decode cAr_wide 89 = .ok (.goto 4, 3) := by decide +kernel
theorem dAr_wide_92 : decode cAr_wide 92 = .ok (.iconst 0, 1) := by decide +kernel
theorem dAr_wide_93 : decode cAr_wide 93 = .ok (.lload_n 2, 1) := by decide +kernel
theorem dAr_wide_94 : decode cAr_wide 94 = .ok (.lload 4, 2) := by decide +kernel
theorem dAr_wide_96 : decode cAr_wide 96 = .ok (.invokestatic 7, 3) := by decide +kernel
theorem dAr_wide_99 : decode cAr_wide 99 = .ok (.lreturn, 1) := by decide +kernel
theorem dAr_wide_100 : decode cAr_wide 100 = .ok (.lload_n 2, 1) := by decide +kernel
theorem dAr_wide_101 : decode cAr_wide 101 = .ok (.lload 4, 2) := by decide +kernel
theorem dAr_wide_103 : decode cAr_wide 103 = .ok (.lor, 1) := by decide +kernel
theorem dAr_wide_104 : decode cAr_wide 104 = .ok (.lreturn, 1) := by decide +kernel
theorem dAr_wide_105 : decode cAr_wide 105 = .ok (.lload_n 2, 1) := by decide +kernel
theorem dAr_wide_106 : decode cAr_wide 106 = .ok (.lload 4, 2) := by decide +kernel
theorem dAr_wide_108 : decode cAr_wide 108 = .ok (.land, 1) := by decide +kernel
theorem dAr_wide_109 : decode cAr_wide 109 = .ok (.lreturn, 1) := by decide +kernel
theorem dAr_wide_110 : decode cAr_wide 110 = .ok (.lload_n 2, 1) := by decide +kernel
theorem dAr_wide_111 : decode cAr_wide 111 = .ok (.lload 4, 2) := by decide +kernel
theorem dAr_wide_113 : decode cAr_wide 113 = .ok (.ldc2_w 13, 3) := by decide +kernel
theorem dAr_wide_116 : decode cAr_wide 116 = .ok (.land, 1) := by decide +kernel
theorem dAr_wide_117 : decode cAr_wide 117 = .ok (.l2i, 1) := by decide +kernel
theorem dAr_wide_118 : decode cAr_wide 118 = .ok (.lshl, 1) := by decide +kernel
theorem dAr_wide_119 : decode cAr_wide 119 = .ok (.lreturn, 1) := by decide +kernel
theorem dAr_wide_120 : decode cAr_wide 120 = .ok (.lload_n 2, 1) := by decide +kernel
theorem dAr_wide_121 : decode cAr_wide 121 = .ok (.lload 4, 2) := by decide +kernel
theorem dAr_wide_123 : decode cAr_wide 123 = .ok (.ldc2_w 13, 3) := by decide +kernel
theorem dAr_wide_126 : decode cAr_wide 126 = .ok (.land, 1) := by decide +kernel
theorem dAr_wide_127 : decode cAr_wide 127 = .ok (.l2i, 1) := by decide +kernel
theorem dAr_wide_128 : decode cAr_wide 128 = .ok (.lushr, 1) := by decide +kernel
theorem dAr_wide_129 : decode cAr_wide 129 = .ok (.lreturn, 1) := by decide +kernel
theorem dAr_wide_130 : decode cAr_wide 130 = .ok (.lload_n 2, 1) := by decide +kernel
theorem dAr_wide_131 : decode cAr_wide 131 = .ok (.lneg, 1) := by decide +kernel
theorem dAr_wide_132 : decode cAr_wide 132 = .ok (.lreturn, 1) := by decide +kernel
theorem dAr_wide_133 : decode cAr_wide 133 = .ok (.iload_n 1, 1) := by decide +kernel
theorem dAr_wide_134 : decode cAr_wide 134 = .ok (.iconst 1, 1) := by decide +kernel
theorem dAr_wide_135 : decode cAr_wide 135 = .ok (.if_icmp .ne 7, 3) := by decide +kernel
theorem dAr_wide_138 : decode cAr_wide 138 = .ok (.iconst 1, 1) := by decide +kernel
theorem dAr_wide_139 : decode cAr_wide 139 = .ok (.goto 4, 3) := by decide +kernel
theorem dAr_wide_142 : decode cAr_wide 142 = .ok (.iconst 0, 1) := by decide +kernel
theorem dAr_wide_143 : decode cAr_wide 143 = .ok (.lload_n 2, 1) := by decide +kernel
theorem dAr_wide_144 : decode cAr_wide 144 = .ok (.lload 4, 2) := by decide +kernel
theorem dAr_wide_146 : decode cAr_wide 146 = .ok (.invokestatic 15, 3) := by decide +kernel
theorem dAr_wide_149 : decode cAr_wide 149 = .ok (.lreturn, 1) := by decide +kernel
theorem dAr_wide_150 : decode cAr_wide 150 = .ok (.lload_n 2, 1) := by decide +kernel
theorem dAr_wide_151 : decode cAr_wide 151 = .ok (.lload 4, 2) := by decide +kernel
theorem dAr_wide_153 : decode cAr_wide 153 = .ok (.lxor, 1) := by decide +kernel
theorem dAr_wide_154 : decode cAr_wide 154 = .ok (.lreturn, 1) := by decide +kernel
theorem dAr_wide_155 : decode cAr_wide 155 = .ok (.iload_n 1, 1) := by decide +kernel
theorem dAr_wide_156 : decode cAr_wide 156 = .ok (.ifCond .ne 8, 3) := by decide +kernel
theorem dAr_wide_159 : decode cAr_wide 159 = .ok (.lload 4, 2) := by decide +kernel
theorem dAr_wide_161 : decode cAr_wide 161 = .ok (.goto 9, 3) := by decide +kernel
theorem dAr_wide_164 : decode cAr_wide 164 = .ok (.lload 4, 2) := by decide +kernel
theorem dAr_wide_166 : decode cAr_wide 166 = .ok (.iload_n 1, 1) := by decide +kernel
theorem dAr_wide_167 : decode cAr_wide 167 = .ok (.invokestatic 18, 3) := by decide +kernel
theorem dAr_wide_170 : decode cAr_wide 170 = .ok (.lreturn, 1) := by decide +kernel
theorem dAr_wide_171 : decode cAr_wide 171 = .ok (.lload_n 2, 1) := by decide +kernel
theorem dAr_wide_172 : decode cAr_wide 172 = .ok (.lload 4, 2) := by decide +kernel
theorem dAr_wide_174 : decode cAr_wide 174 = .ok (.ldc2_w 13, 3) := by decide +kernel
theorem dAr_wide_177 : decode cAr_wide 177 = .ok (.land, 1) := by decide +kernel
theorem dAr_wide_178 : decode cAr_wide 178 = .ok (.l2i, 1) := by decide +kernel
theorem dAr_wide_179 : decode cAr_wide 179 = .ok (.lshr, 1) := by decide +kernel
theorem dAr_wide_180 : decode cAr_wide 180 = .ok (.lreturn, 1) := by decide +kernel
theorem dAr_wide_181 : decode cAr_wide 181 = .ok (.lload_n 2, 1) := by decide +kernel
theorem dAr_wide_182 : decode cAr_wide 182 = .ok (.lreturn, 1) := by decide +kernel
theorem dAr_narrow_0 : decode cAr_narrow 0 = .ok (.iload_n 0, 1) := by decide +kernel
theorem dAr_narrow_1 : decode cAr_narrow 1 = .ok (.tableswitch 174 3 12 #[55, 174, 174, 95, 108, 174, 121, 174, 174, 161], 55) := by decide +kernel
theorem dAr_narrow_56 : decode cAr_narrow 56 = .ok (.iload_n 1, 1) := by decide +kernel
theorem dAr_narrow_57 : decode cAr_narrow 57 = .ok (.iconst 1, 1) := by decide +kernel
theorem dAr_narrow_58 : decode cAr_narrow 58 = .ok (.if_icmp .ne 14, 3) := by decide +kernel
theorem dAr_narrow_61 : decode cAr_narrow 61 = .ok (.iconst 1, 1) := by decide +kernel
theorem dAr_narrow_62 : decode cAr_narrow 62 = .ok (.iload_n 2, 1) := by decide +kernel
theorem dAr_narrow_63 : decode cAr_narrow 63 = .ok (.i2l, 1) := by decide +kernel
theorem dAr_narrow_64 : decode cAr_narrow 64 = .ok (.iload_n 3, 1) := by decide +kernel
theorem dAr_narrow_65 : decode cAr_narrow 65 = .ok (.i2l, 1) := by decide +kernel
theorem dAr_narrow_66 : decode cAr_narrow 66 = .ok (.invokestatic 7, 3) := by decide +kernel
theorem dAr_narrow_69 : decode cAr_narrow 69 = .ok (.goto 21, 3) := by decide +kernel
theorem dAr_narrow_72 : decode cAr_narrow 72 = .ok (.iconst 0, 1) := by decide +kernel
theorem dAr_narrow_73 : decode cAr_narrow 73 = .ok (.iload_n 2, 1) := by decide +kernel
theorem dAr_narrow_74 : decode cAr_narrow 74 = .ok (.i2l, 1) := by decide +kernel
theorem dAr_narrow_75 : decode cAr_narrow 75 = .ok (.bipush 32, 2) := by decide +kernel
theorem dAr_narrow_77 : decode cAr_narrow 77 = .ok (.invokestatic 22, 3) := by decide +kernel
theorem dAr_narrow_80 : decode cAr_narrow 80 = .ok (.iload_n 3, 1) := by decide +kernel
theorem dAr_narrow_81 : decode cAr_narrow 81 = .ok (.i2l, 1) := by decide +kernel
theorem dAr_narrow_82 : decode cAr_narrow 82 = .ok (.bipush 32, 2) := by decide +kernel
theorem dAr_narrow_84 : decode cAr_narrow 84 = .ok (.invokestatic 22, 3) := by decide +kernel
theorem dAr_narrow_87 : decode cAr_narrow 87 = .ok (.invokestatic 7, 3) := by decide +kernel
theorem dAr_narrow_90 : decode cAr_narrow 90 = .ok (.bipush 32, 2) := by decide +kernel
theorem dAr_narrow_92 : decode cAr_narrow 92 = .ok (.invokestatic 22, 3) := by decide +kernel
theorem dAr_narrow_95 : decode cAr_narrow 95 = .ok (.lreturn, 1) := by decide +kernel
theorem dAr_narrow_96 : decode cAr_narrow 96 = .ok (.iload_n 2, 1) := by decide +kernel
theorem dAr_narrow_97 : decode cAr_narrow 97 = .ok (.iload_n 3, 1) := by decide +kernel
theorem dAr_narrow_98 : decode cAr_narrow 98 = .ok (.bipush 31, 2) := by decide +kernel
theorem dAr_narrow_100 : decode cAr_narrow 100 = .ok (.iand, 1) := by decide +kernel
theorem dAr_narrow_101 : decode cAr_narrow 101 = .ok (.ishl, 1) := by decide +kernel
theorem dAr_narrow_102 : decode cAr_narrow 102 = .ok (.i2l, 1) := by decide +kernel
theorem dAr_narrow_103 : decode cAr_narrow 103 = .ok (.bipush 32, 2) := by decide +kernel
theorem dAr_narrow_105 : decode cAr_narrow 105 = .ok (.invokestatic 22, 3) := by decide +kernel
theorem dAr_narrow_108 : decode cAr_narrow 108 = .ok (.lreturn, 1) := by decide +kernel
theorem dAr_narrow_109 : decode cAr_narrow 109 = .ok (.iload_n 2, 1) := by decide +kernel
theorem dAr_narrow_110 : decode cAr_narrow 110 = .ok (.iload_n 3, 1) := by decide +kernel
theorem dAr_narrow_111 : decode cAr_narrow 111 = .ok (.bipush 31, 2) := by decide +kernel
theorem dAr_narrow_113 : decode cAr_narrow 113 = .ok (.iand, 1) := by decide +kernel
theorem dAr_narrow_114 : decode cAr_narrow 114 = .ok (.iushr, 1) := by decide +kernel
theorem dAr_narrow_115 : decode cAr_narrow 115 = .ok (.i2l, 1) := by decide +kernel
theorem dAr_narrow_116 : decode cAr_narrow 116 = .ok (.bipush 32, 2) := by decide +kernel
theorem dAr_narrow_118 : decode cAr_narrow 118 = .ok (.invokestatic 22, 3) := by decide +kernel
theorem dAr_narrow_121 : decode cAr_narrow 121 = .ok (.lreturn, 1) := by decide +kernel
theorem dAr_narrow_122 : decode cAr_narrow 122 = .ok (.iload_n 1, 1) := by decide +kernel
theorem dAr_narrow_123 : decode cAr_narrow 123 = .ok (.iconst 1, 1) := by decide +kernel
theorem dAr_narrow_124 : decode cAr_narrow 124 = .ok (.if_icmp .ne 14, 3) := by decide +kernel
theorem dAr_narrow_127 : decode cAr_narrow 127 = .ok (.iconst 1, 1) := by decide +kernel
theorem dAr_narrow_128 : decode cAr_narrow 128 = .ok (.iload_n 2, 1) := by decide +kernel
theorem dAr_narrow_129 : decode cAr_narrow 129 = .ok (.i2l, 1) := by decide +kernel
theorem dAr_narrow_130 : decode cAr_narrow 130 = .ok (.iload_n 3, 1) := by decide +kernel
theorem dAr_narrow_131 : decode cAr_narrow 131 = .ok (.i2l, 1) := by decide +kernel
theorem dAr_narrow_132 : decode cAr_narrow 132 = .ok (.invokestatic 15, 3) := by decide +kernel
theorem dAr_narrow_135 : decode cAr_narrow 135 = .ok (.goto 21, 3) := by decide +kernel
theorem dAr_narrow_138 : decode cAr_narrow 138 = .ok (.iconst 0, 1) := by decide +kernel
theorem dAr_narrow_139 : decode cAr_narrow 139 = .ok (.iload_n 2, 1) := by decide +kernel
theorem dAr_narrow_140 : decode cAr_narrow 140 = .ok (.i2l, 1) := by decide +kernel
theorem dAr_narrow_141 : decode cAr_narrow 141 = .ok (.bipush 32, 2) := by decide +kernel
theorem dAr_narrow_143 : decode cAr_narrow 143 = .ok (.invokestatic 22, 3) := by decide +kernel
theorem dAr_narrow_146 : decode cAr_narrow 146 = .ok (.iload_n 3, 1) := by decide +kernel
theorem dAr_narrow_147 : decode cAr_narrow 147 = .ok (.i2l, 1) := by decide +kernel
theorem dAr_narrow_148 : decode cAr_narrow 148 = .ok (.bipush 32, 2) := by decide +kernel
theorem dAr_narrow_150 : decode cAr_narrow 150 = .ok (.invokestatic 22, 3) := by decide +kernel
theorem dAr_narrow_153 : decode cAr_narrow 153 = .ok (.invokestatic 15, 3) := by decide +kernel
theorem dAr_narrow_156 : decode cAr_narrow 156 = .ok (.bipush 32, 2) := by decide +kernel
theorem dAr_narrow_158 : decode cAr_narrow 158 = .ok (.invokestatic 22, 3) := by decide +kernel
theorem dAr_narrow_161 : decode cAr_narrow 161 = .ok (.lreturn, 1) := by decide +kernel
theorem dAr_narrow_162 : decode cAr_narrow 162 = .ok (.iload_n 2, 1) := by decide +kernel
theorem dAr_narrow_163 : decode cAr_narrow 163 = .ok (.iload_n 3, 1) := by decide +kernel
theorem dAr_narrow_164 : decode cAr_narrow 164 = .ok (.bipush 31, 2) := by decide +kernel
theorem dAr_narrow_166 : decode cAr_narrow 166 = .ok (.iand, 1) := by decide +kernel
theorem dAr_narrow_167 : decode cAr_narrow 167 = .ok (.ishr, 1) := by decide +kernel
theorem dAr_narrow_168 : decode cAr_narrow 168 = .ok (.i2l, 1) := by decide +kernel
theorem dAr_narrow_169 : decode cAr_narrow 169 = .ok (.bipush 32, 2) := by decide +kernel
theorem dAr_narrow_171 : decode cAr_narrow 171 = .ok (.invokestatic 22, 3) := by decide +kernel
theorem dAr_narrow_174 : decode cAr_narrow 174 = .ok (.lreturn, 1) := by decide +kernel
theorem dAr_narrow_175 : decode cAr_narrow 175 = .ok (.iload_n 0, 1) := by decide +kernel
theorem dAr_narrow_176 : decode cAr_narrow 176 = .ok (.iload_n 1, 1) := by decide +kernel
theorem dAr_narrow_177 : decode cAr_narrow 177 = .ok (.iload_n 2, 1) := by decide +kernel
theorem dAr_narrow_178 : decode cAr_narrow 178 = .ok (.i2l, 1) := by decide +kernel
theorem dAr_narrow_179 : decode cAr_narrow 179 = .ok (.iload_n 3, 1) := by decide +kernel
theorem dAr_narrow_180 : decode cAr_narrow 180 = .ok (.i2l, 1) := by decide +kernel
theorem dAr_narrow_181 : decode cAr_narrow 181 = .ok (.invokestatic 25, 3) := by decide +kernel
theorem dAr_narrow_184 : decode cAr_narrow 184 = .ok (.bipush 32, 2) := by decide +kernel
theorem dAr_narrow_186 : decode cAr_narrow 186 = .ok (.invokestatic 22, 3) := by decide +kernel
theorem dAr_narrow_189 : decode cAr_narrow 189 = .ok (.lreturn, 1) := by decide +kernel
theorem dAr_quotient_0 : decode cAr_quotient 0 = .ok (.lload_n 3, 1) := by decide +kernel
theorem dAr_quotient_1 : decode cAr_quotient 1 = .ok (.lconst 0, 1) := by decide +kernel
theorem dAr_quotient_2 : decode cAr_quotient 2 = .ok (.lcmp, 1) := by decide +kernel
theorem dAr_quotient_3 : decode cAr_quotient 3 = .ok (.ifCond .ne 5, 3) := by decide +kernel
theorem dAr_quotient_6 : decode cAr_quotient 6 = .ok (.lconst 0, 1) := by decide +kernel
theorem dAr_quotient_7 : decode cAr_quotient 7 = .ok (.lreturn, 1) := by decide +kernel
theorem dAr_quotient_8 : decode cAr_quotient 8 = .ok (.iload_n 0, 1) := by decide +kernel
theorem dAr_quotient_9 : decode cAr_quotient 9 = .ok (.ifCond .eq 9, 3) := by decide +kernel
theorem dAr_quotient_12 : decode cAr_quotient 12 = .ok (.lload_n 1, 1) := by decide +kernel
theorem dAr_quotient_13 : decode cAr_quotient 13 = .ok (.lload_n 3, 1) := by decide +kernel
theorem dAr_quotient_14 : decode cAr_quotient 14 = .ok (.ldiv, 1) := by decide +kernel
theorem dAr_quotient_15 : decode cAr_quotient 15 = .ok (.goto 8, 3) := by decide +kernel
theorem dAr_quotient_18 : decode cAr_quotient 18 = .ok (.lload_n 1, 1) := by decide +kernel
theorem dAr_quotient_19 : decode cAr_quotient 19 = .ok (.lload_n 3, 1) := by decide +kernel
theorem dAr_quotient_20 : decode cAr_quotient 20 = .ok (.invokestatic 29, 3) := by decide +kernel
theorem dAr_quotient_23 : decode cAr_quotient 23 = .ok (.lreturn, 1) := by decide +kernel
theorem dAr_unsignedQuotient_0 : decode cAr_unsignedQuotient 0 = .ok (.lload_n 2, 1) := by decide +kernel
theorem dAr_unsignedQuotient_1 : decode cAr_unsignedQuotient 1 = .ok (.lconst 0, 1) := by decide +kernel
theorem dAr_unsignedQuotient_2 : decode cAr_unsignedQuotient 2 = .ok (.lcmp, 1) := by decide +kernel
theorem dAr_unsignedQuotient_3 : decode cAr_unsignedQuotient 3 = .ok (.ifCond .gt 23, 3) := by decide +kernel
theorem dAr_unsignedQuotient_6 : decode cAr_unsignedQuotient 6 = .ok (.lload_n 0, 1) := by decide +kernel
theorem dAr_unsignedQuotient_7 : decode cAr_unsignedQuotient 7 = .ok (.ldc2_w 33, 3) := by decide +kernel
theorem dAr_unsignedQuotient_10 : decode cAr_unsignedQuotient 10 = .ok (.lxor, 1) := by decide +kernel
theorem dAr_unsignedQuotient_11 : decode cAr_unsignedQuotient 11 = .ok (.lload_n 2, 1) := by decide +kernel
theorem dAr_unsignedQuotient_12 : decode cAr_unsignedQuotient 12 = .ok (.ldc2_w 33, 3) := by decide +kernel
theorem dAr_unsignedQuotient_15 : decode cAr_unsignedQuotient 15 = .ok (.lxor, 1) := by decide +kernel
theorem dAr_unsignedQuotient_16 : decode cAr_unsignedQuotient 16 = .ok (.lcmp, 1) := by decide +kernel
theorem dAr_unsignedQuotient_17 : decode cAr_unsignedQuotient 17 = .ok (.ifCond .lt 7, 3) := by decide +kernel
theorem dAr_unsignedQuotient_20 : decode cAr_unsignedQuotient 20 = .ok (.lconst 1, 1) := by decide +kernel
theorem dAr_unsignedQuotient_21 : decode cAr_unsignedQuotient 21 = .ok (.goto 4, 3) := by decide +kernel
theorem dAr_unsignedQuotient_24 : decode cAr_unsignedQuotient 24 = .ok (.lconst 0, 1) := by decide +kernel
theorem dAr_unsignedQuotient_25 : decode cAr_unsignedQuotient 25 = .ok (.lreturn, 1) := by decide +kernel
theorem dAr_unsignedQuotient_26 : decode cAr_unsignedQuotient 26 = .ok (.lload_n 0, 1) := by decide +kernel
theorem dAr_unsignedQuotient_27 : decode cAr_unsignedQuotient 27 = .ok (.iconst 1, 1) := by decide +kernel
theorem dAr_unsignedQuotient_28 : decode cAr_unsignedQuotient 28 = .ok (.lushr, 1) := by decide +kernel
theorem dAr_unsignedQuotient_29 : decode cAr_unsignedQuotient 29 = .ok (.lload_n 2, 1) := by decide +kernel
theorem dAr_unsignedQuotient_30 : decode cAr_unsignedQuotient 30 = .ok (.ldiv, 1) := by decide +kernel
theorem dAr_unsignedQuotient_31 : decode cAr_unsignedQuotient 31 = .ok (.iconst 1, 1) := by decide +kernel
theorem dAr_unsignedQuotient_32 : decode cAr_unsignedQuotient 32 = .ok (.lshl, 1) := by decide +kernel
theorem dAr_unsignedQuotient_33 : decode cAr_unsignedQuotient 33 = .ok (.lstore 4, 2) := by decide +kernel
theorem dAr_unsignedQuotient_35 : decode cAr_unsignedQuotient 35 = .ok (.lload_n 0, 1) := by decide +kernel
theorem dAr_unsignedQuotient_36 : decode cAr_unsignedQuotient 36 = .ok (.lload 4, 2) := by decide +kernel
theorem dAr_unsignedQuotient_38 : decode cAr_unsignedQuotient 38 = .ok (.lload_n 2, 1) := by decide +kernel
theorem dAr_unsignedQuotient_39 : decode cAr_unsignedQuotient 39 = .ok (.lmul, 1) := by decide +kernel
theorem dAr_unsignedQuotient_40 : decode cAr_unsignedQuotient 40 = .ok (.lsub, 1) := by decide +kernel
theorem dAr_unsignedQuotient_41 : decode cAr_unsignedQuotient 41 = .ok (.lstore 6, 2) := by decide +kernel
theorem dAr_unsignedQuotient_43 : decode cAr_unsignedQuotient 43 = .ok (.lload 6, 2) := by decide +kernel
theorem dAr_unsignedQuotient_45 : decode cAr_unsignedQuotient 45 = .ok (.ldc2_w 33, 3) := by decide +kernel
theorem dAr_unsignedQuotient_48 : decode cAr_unsignedQuotient 48 = .ok (.lxor, 1) := by decide +kernel
theorem dAr_unsignedQuotient_49 : decode cAr_unsignedQuotient 49 = .ok (.lload_n 2, 1) := by decide +kernel
theorem dAr_unsignedQuotient_50 : decode cAr_unsignedQuotient 50 = .ok (.ldc2_w 33, 3) := by decide +kernel
theorem dAr_unsignedQuotient_53 : decode cAr_unsignedQuotient 53 = .ok (.lxor, 1) := by decide +kernel
theorem dAr_unsignedQuotient_54 : decode cAr_unsignedQuotient 54 = .ok (.lcmp, 1) := by decide +kernel
theorem dAr_unsignedQuotient_55 : decode cAr_unsignedQuotient 55 = .ok (.ifCond .lt 10, 3) := by decide +kernel
theorem dAr_unsignedQuotient_58 : decode cAr_unsignedQuotient 58 = .ok (.lload 4, 2) := by decide +kernel
theorem dAr_unsignedQuotient_60 : decode cAr_unsignedQuotient 60 = .ok (.lconst 1, 1) := by decide +kernel
theorem dAr_unsignedQuotient_61 : decode cAr_unsignedQuotient 61 = .ok (.ladd, 1) := by decide +kernel
theorem dAr_unsignedQuotient_62 : decode cAr_unsignedQuotient 62 = .ok (.goto 5, 3) := by decide +kernel
theorem dAr_unsignedQuotient_65 : decode cAr_unsignedQuotient 65 = .ok (.lload 4, 2) := by decide +kernel
theorem dAr_unsignedQuotient_67 : decode cAr_unsignedQuotient 67 = .ok (.lreturn, 1) := by decide +kernel
theorem dAr_rest_0 : decode cAr_rest 0 = .ok (.lload_n 1, 1) := by decide +kernel
theorem dAr_rest_1 : decode cAr_rest 1 = .ok (.lload_n 3, 1) := by decide +kernel
theorem dAr_rest_2 : decode cAr_rest 2 = .ok (.iload_n 0, 1) := by decide +kernel
theorem dAr_rest_3 : decode cAr_rest 3 = .ok (.lload_n 1, 1) := by decide +kernel
theorem dAr_rest_4 : decode cAr_rest 4 = .ok (.lload_n 3, 1) := by decide +kernel
theorem dAr_rest_5 : decode cAr_rest 5 = .ok (.invokestatic 7, 3) := by decide +kernel
theorem dAr_rest_8 : decode cAr_rest 8 = .ok (.lmul, 1) := by decide +kernel
theorem dAr_rest_9 : decode cAr_rest 9 = .ok (.lsub, 1) := by decide +kernel
theorem dAr_rest_10 : decode cAr_rest 10 = .ok (.lreturn, 1) := by decide +kernel
theorem dAr_lowest_0 : decode cAr_lowest 0 = .ok (.iload_n 2, 1) := by decide +kernel
theorem dAr_lowest_1 : decode cAr_lowest 1 = .ok (.bipush 64, 2) := by decide +kernel
theorem dAr_lowest_3 : decode cAr_lowest 3 = .ok (.if_icmp .lt 7, 3) := by decide +kernel
theorem dAr_lowest_6 : decode cAr_lowest 6 = .ok (.lload_n 0, 1) := by decide +kernel
theorem dAr_lowest_7 : decode cAr_lowest 7 = .ok (.goto 10, 3) := by decide +kernel
theorem dAr_lowest_10 : decode cAr_lowest 10 = .ok (.lload_n 0, 1) := by decide +kernel
theorem dAr_lowest_11 : decode cAr_lowest 11 = .ok (.lconst 1, 1) := by decide +kernel
theorem dAr_lowest_12 : decode cAr_lowest 12 = .ok (.iload_n 2, 1) := by decide +kernel
theorem dAr_lowest_13 : decode cAr_lowest 13 = .ok (.lshl, 1) := by decide +kernel
theorem dAr_lowest_14 : decode cAr_lowest 14 = .ok (.lconst 1, 1) := by decide +kernel
theorem dAr_lowest_15 : decode cAr_lowest 15 = .ok (.lsub, 1) := by decide +kernel
theorem dAr_lowest_16 : decode cAr_lowest 16 = .ok (.land, 1) := by decide +kernel
theorem dAr_lowest_17 : decode cAr_lowest 17 = .ok (.lreturn, 1) := by decide +kernel
theorem dAr_signed_0 : decode cAr_signed 0 = .ok (.iload_n 2, 1) := by decide +kernel
theorem dAr_signed_1 : decode cAr_signed 1 = .ok (.bipush 64, 2) := by decide +kernel
theorem dAr_signed_3 : decode cAr_signed 3 = .ok (.if_icmp .lt 7, 3) := by decide +kernel
theorem dAr_signed_6 : decode cAr_signed 6 = .ok (.lload_n 0, 1) := by decide +kernel
theorem dAr_signed_7 : decode cAr_signed 7 = .ok (.goto 14, 3) := by decide +kernel
theorem dAr_signed_10 : decode cAr_signed 10 = .ok (.lload_n 0, 1) := by decide +kernel
theorem dAr_signed_11 : decode cAr_signed 11 = .ok (.bipush 64, 2) := by decide +kernel
theorem dAr_signed_13 : decode cAr_signed 13 = .ok (.iload_n 2, 1) := by decide +kernel
theorem dAr_signed_14 : decode cAr_signed 14 = .ok (.isub, 1) := by decide +kernel
theorem dAr_signed_15 : decode cAr_signed 15 = .ok (.lshl, 1) := by decide +kernel
theorem dAr_signed_16 : decode cAr_signed 16 = .ok (.bipush 64, 2) := by decide +kernel
theorem dAr_signed_18 : decode cAr_signed 18 = .ok (.iload_n 2, 1) := by decide +kernel
theorem dAr_signed_19 : decode cAr_signed 19 = .ok (.isub, 1) := by decide +kernel
theorem dAr_signed_20 : decode cAr_signed 20 = .ok (.lshr, 1) := by decide +kernel
theorem dAr_signed_21 : decode cAr_signed 21 = .ok (.lreturn, 1) := by decide +kernel
theorem dAr_turned_0 : decode cAr_turned 0 = .ok (.lload_n 0, 1) := by decide +kernel
theorem dAr_turned_1 : decode cAr_turned 1 = .ok (.invokestatic 35, 3) := by decide +kernel
theorem dAr_turned_4 : decode cAr_turned 4 = .ok (.bipush 64, 2) := by decide +kernel
theorem dAr_turned_6 : decode cAr_turned 6 = .ok (.iload_n 2, 1) := by decide +kernel
theorem dAr_turned_7 : decode cAr_turned 7 = .ok (.isub, 1) := by decide +kernel
theorem dAr_turned_8 : decode cAr_turned 8 = .ok (.lushr, 1) := by decide +kernel
theorem dAr_turned_9 : decode cAr_turned 9 = .ok (.lreturn, 1) := by decide +kernel
theorem dAr_isTaken_0 : decode cAr_isTaken 0 = .ok (.lload_n 1, 1) := by decide +kernel
theorem dAr_isTaken_1 : decode cAr_isTaken 1 = .ok (.ldc2_w 33, 3) := by decide +kernel
theorem dAr_isTaken_4 : decode cAr_isTaken 4 = .ok (.lxor, 1) := by decide +kernel
theorem dAr_isTaken_5 : decode cAr_isTaken 5 = .ok (.lstore 5, 2) := by decide +kernel
theorem dAr_isTaken_7 : decode cAr_isTaken 7 = .ok (.lload_n 3, 1) := by decide +kernel
theorem dAr_isTaken_8 : decode cAr_isTaken 8 = .ok (.ldc2_w 33, 3) := by decide +kernel
theorem dAr_isTaken_11 : decode cAr_isTaken 11 = .ok (.lxor, 1) := by decide +kernel
theorem dAr_isTaken_12 : decode cAr_isTaken 12 = .ok (.lstore 7, 2) := by decide +kernel
theorem dAr_isTaken_14 : decode cAr_isTaken 14 = .ok (.iload_n 0, 1) := by decide +kernel
theorem dAr_isTaken_15 : decode cAr_isTaken 15 = .ok (.tableswitch 207 1 13 #[65, 77, 91, 105, 119, 131, 143, 207, 207, 155, 169, 183, 195], 65) := by decide +kernel
theorem dAr_isTaken_80 : decode cAr_isTaken 80 = .ok (.lload_n 1, 1) := by decide +kernel
theorem dAr_isTaken_81 : decode cAr_isTaken 81 = .ok (.lload_n 3, 1) := by decide +kernel
theorem dAr_isTaken_82 : decode cAr_isTaken 82 = .ok (.lcmp, 1) := by decide +kernel
theorem dAr_isTaken_83 : decode cAr_isTaken 83 = .ok (.ifCond .ne 7, 3) := by decide +kernel
theorem dAr_isTaken_86 : decode cAr_isTaken 86 = .ok (.iconst 1, 1) := by decide +kernel
theorem dAr_isTaken_87 : decode cAr_isTaken 87 = .ok (.goto 4, 3) := by decide +kernel
theorem dAr_isTaken_90 : decode cAr_isTaken 90 = .ok (.iconst 0, 1) := by decide +kernel
theorem dAr_isTaken_91 : decode cAr_isTaken 91 = .ok (.ireturn, 1) := by decide +kernel
theorem dAr_isTaken_92 : decode cAr_isTaken 92 = .ok (.lload 5, 2) := by decide +kernel
theorem dAr_isTaken_94 : decode cAr_isTaken 94 = .ok (.lload 7, 2) := by decide +kernel
theorem dAr_isTaken_96 : decode cAr_isTaken 96 = .ok (.lcmp, 1) := by decide +kernel
theorem dAr_isTaken_97 : decode cAr_isTaken 97 = .ok (.ifCond .le 7, 3) := by decide +kernel
theorem dAr_isTaken_100 : decode cAr_isTaken 100 = .ok (.iconst 1, 1) := by decide +kernel
theorem dAr_isTaken_101 : decode cAr_isTaken 101 = .ok (.goto 4, 3) := by decide +kernel
theorem dAr_isTaken_104 : decode cAr_isTaken 104 = .ok (.iconst 0, 1) := by decide +kernel
theorem dAr_isTaken_105 : decode cAr_isTaken 105 = .ok (.ireturn, 1) := by decide +kernel
theorem dAr_isTaken_106 : decode cAr_isTaken 106 = .ok (.lload 5, 2) := by decide +kernel
theorem dAr_isTaken_108 : decode cAr_isTaken 108 = .ok (.lload 7, 2) := by decide +kernel
theorem dAr_isTaken_110 : decode cAr_isTaken 110 = .ok (.lcmp, 1) := by decide +kernel
theorem dAr_isTaken_111 : decode cAr_isTaken 111 = .ok (.ifCond .lt 7, 3) := by decide +kernel
theorem dAr_isTaken_114 : decode cAr_isTaken 114 = .ok (.iconst 1, 1) := by decide +kernel
theorem dAr_isTaken_115 : decode cAr_isTaken 115 = .ok (.goto 4, 3) := by decide +kernel
theorem dAr_isTaken_118 : decode cAr_isTaken 118 = .ok (.iconst 0, 1) := by decide +kernel
theorem dAr_isTaken_119 : decode cAr_isTaken 119 = .ok (.ireturn, 1) := by decide +kernel
theorem dAr_isTaken_120 : decode cAr_isTaken 120 = .ok (.lload_n 1, 1) := by decide +kernel
theorem dAr_isTaken_121 : decode cAr_isTaken 121 = .ok (.lload_n 3, 1) := by decide +kernel
theorem dAr_isTaken_122 : decode cAr_isTaken 122 = .ok (.land, 1) := by decide +kernel
theorem dAr_isTaken_123 : decode cAr_isTaken 123 = .ok (.lconst 0, 1) := by decide +kernel
theorem dAr_isTaken_124 : decode cAr_isTaken 124 = .ok (.lcmp, 1) := by decide +kernel
theorem dAr_isTaken_125 : decode cAr_isTaken 125 = .ok (.ifCond .eq 7, 3) := by decide +kernel
theorem dAr_isTaken_128 : decode cAr_isTaken 128 = .ok (.iconst 1, 1) := by decide +kernel
theorem dAr_isTaken_129 : decode cAr_isTaken 129 = .ok (.goto 4, 3) := by decide +kernel
theorem dAr_isTaken_132 : decode cAr_isTaken 132 = .ok (.iconst 0, 1) := by decide +kernel
theorem dAr_isTaken_133 : decode cAr_isTaken 133 = .ok (.ireturn, 1) := by decide +kernel
theorem dAr_isTaken_134 : decode cAr_isTaken 134 = .ok (.lload_n 1, 1) := by decide +kernel
theorem dAr_isTaken_135 : decode cAr_isTaken 135 = .ok (.lload_n 3, 1) := by decide +kernel
theorem dAr_isTaken_136 : decode cAr_isTaken 136 = .ok (.lcmp, 1) := by decide +kernel
theorem dAr_isTaken_137 : decode cAr_isTaken 137 = .ok (.ifCond .eq 7, 3) := by decide +kernel
theorem dAr_isTaken_140 : decode cAr_isTaken 140 = .ok (.iconst 1, 1) := by decide +kernel
theorem dAr_isTaken_141 : decode cAr_isTaken 141 = .ok (.goto 4, 3) := by decide +kernel
theorem dAr_isTaken_144 : decode cAr_isTaken 144 = .ok (.iconst 0, 1) := by decide +kernel
theorem dAr_isTaken_145 : decode cAr_isTaken 145 = .ok (.ireturn, 1) := by decide +kernel
theorem dAr_isTaken_146 : decode cAr_isTaken 146 = .ok (.lload_n 1, 1) := by decide +kernel
theorem dAr_isTaken_147 : decode cAr_isTaken 147 = .ok (.lload_n 3, 1) := by decide +kernel
theorem dAr_isTaken_148 : decode cAr_isTaken 148 = .ok (.lcmp, 1) := by decide +kernel
theorem dAr_isTaken_149 : decode cAr_isTaken 149 = .ok (.ifCond .le 7, 3) := by decide +kernel
theorem dAr_isTaken_152 : decode cAr_isTaken 152 = .ok (.iconst 1, 1) := by decide +kernel
theorem dAr_isTaken_153 : decode cAr_isTaken 153 = .ok (.goto 4, 3) := by decide +kernel
theorem dAr_isTaken_156 : decode cAr_isTaken 156 = .ok (.iconst 0, 1) := by decide +kernel
theorem dAr_isTaken_157 : decode cAr_isTaken 157 = .ok (.ireturn, 1) := by decide +kernel
theorem dAr_isTaken_158 : decode cAr_isTaken 158 = .ok (.lload_n 1, 1) := by decide +kernel
theorem dAr_isTaken_159 : decode cAr_isTaken 159 = .ok (.lload_n 3, 1) := by decide +kernel
theorem dAr_isTaken_160 : decode cAr_isTaken 160 = .ok (.lcmp, 1) := by decide +kernel
theorem dAr_isTaken_161 : decode cAr_isTaken 161 = .ok (.ifCond .lt 7, 3) := by decide +kernel
theorem dAr_isTaken_164 : decode cAr_isTaken 164 = .ok (.iconst 1, 1) := by decide +kernel
theorem dAr_isTaken_165 : decode cAr_isTaken 165 = .ok (.goto 4, 3) := by decide +kernel
theorem dAr_isTaken_168 : decode cAr_isTaken 168 = .ok (.iconst 0, 1) := by decide +kernel
theorem dAr_isTaken_169 : decode cAr_isTaken 169 = .ok (.ireturn, 1) := by decide +kernel
theorem dAr_isTaken_170 : decode cAr_isTaken 170 = .ok (.lload 5, 2) := by decide +kernel
theorem dAr_isTaken_172 : decode cAr_isTaken 172 = .ok (.lload 7, 2) := by decide +kernel
theorem dAr_isTaken_174 : decode cAr_isTaken 174 = .ok (.lcmp, 1) := by decide +kernel
theorem dAr_isTaken_175 : decode cAr_isTaken 175 = .ok (.ifCond .ge 7, 3) := by decide +kernel
theorem dAr_isTaken_178 : decode cAr_isTaken 178 = .ok (.iconst 1, 1) := by decide +kernel
theorem dAr_isTaken_179 : decode cAr_isTaken 179 = .ok (.goto 4, 3) := by decide +kernel
theorem dAr_isTaken_182 : decode cAr_isTaken 182 = .ok (.iconst 0, 1) := by decide +kernel
theorem dAr_isTaken_183 : decode cAr_isTaken 183 = .ok (.ireturn, 1) := by decide +kernel
theorem dAr_isTaken_184 : decode cAr_isTaken 184 = .ok (.lload 5, 2) := by decide +kernel
theorem dAr_isTaken_186 : decode cAr_isTaken 186 = .ok (.lload 7, 2) := by decide +kernel
theorem dAr_isTaken_188 : decode cAr_isTaken 188 = .ok (.lcmp, 1) := by decide +kernel
theorem dAr_isTaken_189 : decode cAr_isTaken 189 = .ok (.ifCond .gt 7, 3) := by decide +kernel
theorem dAr_isTaken_192 : decode cAr_isTaken 192 = .ok (.iconst 1, 1) := by decide +kernel
theorem dAr_isTaken_193 : decode cAr_isTaken 193 = .ok (.goto 4, 3) := by decide +kernel
theorem dAr_isTaken_196 : decode cAr_isTaken 196 = .ok (.iconst 0, 1) := by decide +kernel
theorem dAr_isTaken_197 : decode cAr_isTaken 197 = .ok (.ireturn, 1) := by decide +kernel
theorem dAr_isTaken_198 : decode cAr_isTaken 198 = .ok (.lload_n 1, 1) := by decide +kernel
theorem dAr_isTaken_199 : decode cAr_isTaken 199 = .ok (.lload_n 3, 1) := by decide +kernel
theorem dAr_isTaken_200 : decode cAr_isTaken 200 = .ok (.lcmp, 1) := by decide +kernel
theorem dAr_isTaken_201 : decode cAr_isTaken 201 = .ok (.ifCond .ge 7, 3) := by decide +kernel
theorem dAr_isTaken_204 : decode cAr_isTaken 204 = .ok (.iconst 1, 1) := by decide +kernel
theorem dAr_isTaken_205 : decode cAr_isTaken 205 = .ok (.goto 4, 3) := by decide +kernel
theorem dAr_isTaken_208 : decode cAr_isTaken 208 = .ok (.iconst 0, 1) := by decide +kernel
theorem dAr_isTaken_209 : decode cAr_isTaken 209 = .ok (.ireturn, 1) := by decide +kernel
theorem dAr_isTaken_210 : decode cAr_isTaken 210 = .ok (.lload_n 1, 1) := by decide +kernel
theorem dAr_isTaken_211 : decode cAr_isTaken 211 = .ok (.lload_n 3, 1) := by decide +kernel
theorem dAr_isTaken_212 : decode cAr_isTaken 212 = .ok (.lcmp, 1) := by decide +kernel
theorem dAr_isTaken_213 : decode cAr_isTaken 213 = .ok (.ifCond .gt 7, 3) := by decide +kernel
theorem dAr_isTaken_216 : decode cAr_isTaken 216 = .ok (.iconst 1, 1) := by decide +kernel
theorem dAr_isTaken_217 : decode cAr_isTaken 217 = .ok (.goto 4, 3) := by decide +kernel
theorem dAr_isTaken_220 : decode cAr_isTaken 220 = .ok (.iconst 0, 1) := by decide +kernel
theorem dAr_isTaken_221 : decode cAr_isTaken 221 = .ok (.ireturn, 1) := by decide +kernel
theorem dAr_isTaken_222 : decode cAr_isTaken 222 = .ok (.iconst 0, 1) := by decide +kernel
theorem dAr_isTaken_223 : decode cAr_isTaken 223 = .ok (.ireturn, 1) := by decide +kernel
