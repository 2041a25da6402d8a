theorem dMo_isAtomic_0 : decode cMo_isAtomic 0 = .ok (.aload_n 0, 1) := by decide +kernel
theorem dMo_isAtomic_1 : decode cMo_isAtomic 1 = .ok (.getfield 50, 3) := by decide +kernel
theorem dMo_isAtomic_4 : decode cMo_isAtomic 4 = .ok (.iconst 1, 1) := by decide +kernel
theorem dMo_isAtomic_5 : decode cMo_isAtomic 5 = .ok (.if_icmp .eq 41, 3) := by decide +kernel
theorem dMo_isAtomic_8 : decode cMo_isAtomic 8 = .ok (.aload_n 0, 1) := by decide +kernel
theorem dMo_isAtomic_9 : decode cMo_isAtomic 9 = .ok (.getfield 50, 3) := by decide +kernel
theorem dMo_isAtomic_12 : decode cMo_isAtomic 12 = .ok (.bipush 65, 2) := by decide +kernel
theorem dMo_isAtomic_14 : decode cMo_isAtomic 14 = .ok (.if_icmp .eq 32, 3) := by decide +kernel
theorem dMo_isAtomic_17 : decode cMo_isAtomic 17 = .ok (.aload_n 0, 1) := by decide +kernel
theorem dMo_isAtomic_18 : decode cMo_isAtomic 18 = .ok (.getfield 50, 3) := by decide +kernel
theorem dMo_isAtomic_21 : decode cMo_isAtomic 21 = .ok (.bipush 81, 2) := by decide +kernel
theorem dMo_isAtomic_23 : decode cMo_isAtomic 23 = .ok (.if_icmp .eq 23, 3) := by decide +kernel
theorem dMo_isAtomic_26 : decode cMo_isAtomic 26 = .ok (.aload_n 0, 1) := by decide +kernel
theorem dMo_isAtomic_27 : decode cMo_isAtomic 27 = .ok (.getfield 50, 3) := by decide +kernel
theorem dMo_isAtomic_30 : decode cMo_isAtomic 30 = .ok (.sipush 161, 3) := by decide +kernel
theorem dMo_isAtomic_33 : decode cMo_isAtomic 33 = .ok (.if_icmp .eq 13, 3) := by decide +kernel
theorem dMo_isAtomic_36 : decode cMo_isAtomic 36 = .ok (.aload_n 0, 1) := by decide +kernel
theorem dMo_isAtomic_37 : decode cMo_isAtomic 37 = .ok (.getfield 50, 3) := by decide +kernel
theorem dMo_isAtomic_40 : decode cMo_isAtomic 40 = .ok (.sipush 225, 3) := by decide +kernel
theorem dMo_isAtomic_43 : decode cMo_isAtomic 43 = .ok (.if_icmp .ne 7, 3) := by decide +kernel
theorem dMo_isAtomic_46 : decode cMo_isAtomic 46 = .ok (.iconst 1, 1) := by decide +kernel
theorem dMo_isAtomic_47 : decode cMo_isAtomic 47 = .ok (.goto 4, 3) := by decide +kernel
theorem dMo_isAtomic_50 : decode cMo_isAtomic 50 = .ok (.iconst 0, 1) := by decide +kernel
theorem dMo_isAtomic_51 : decode cMo_isAtomic 51 = .ok (.istore_n 1, 1) := by decide +kernel
theorem dMo_isAtomic_52 : decode cMo_isAtomic 52 = .ok (.aload_n 0, 1) := by decide +kernel
theorem dMo_isAtomic_53 : decode cMo_isAtomic 53 = .ok (.getfield 50, 3) := by decide +kernel
theorem dMo_isAtomic_56 : decode cMo_isAtomic 56 = .ok (.ifCond .eq 41, 3) := by decide +kernel
theorem dMo_isAtomic_59 : decode cMo_isAtomic 59 = .ok (.aload_n 0, 1) := by decide +kernel
theorem dMo_isAtomic_60 : decode cMo_isAtomic 60 = .ok (.getfield 50, 3) := by decide +kernel
theorem dMo_isAtomic_63 : decode cMo_isAtomic 63 = .ok (.bipush 64, 2) := by decide +kernel
theorem dMo_isAtomic_65 : decode cMo_isAtomic 65 = .ok (.if_icmp .eq 32, 3) := by decide +kernel
theorem dMo_isAtomic_68 : decode cMo_isAtomic 68 = .ok (.aload_n 0, 1) := by decide +kernel
theorem dMo_isAtomic_69 : decode cMo_isAtomic 69 = .ok (.getfield 50, 3) := by decide +kernel
theorem dMo_isAtomic_72 : decode cMo_isAtomic 72 = .ok (.bipush 80, 2) := by decide +kernel
theorem dMo_isAtomic_74 : decode cMo_isAtomic 74 = .ok (.if_icmp .eq 23, 3) := by decide +kernel
theorem dMo_isAtomic_77 : decode cMo_isAtomic 77 = .ok (.aload_n 0, 1) := by decide +kernel
theorem dMo_isAtomic_78 : decode cMo_isAtomic 78 = .ok (.getfield 50, 3) := by decide +kernel
theorem dMo_isAtomic_81 : decode cMo_isAtomic 81 = .ok (.sipush 160, 3) := by decide +kernel
theorem dMo_isAtomic_84 : decode cMo_isAtomic 84 = .ok (.if_icmp .eq 13, 3) := by decide +kernel
theorem dMo_isAtomic_87 : decode cMo_isAtomic 87 = .ok (.aload_n 0, 1) := by decide +kernel
theorem dMo_isAtomic_88 : decode cMo_isAtomic 88 = .ok (.getfield 50, 3) := by decide +kernel
theorem dMo_isAtomic_91 : decode cMo_isAtomic 91 = .ok (.sipush 241, 3) := by decide +kernel
theorem dMo_isAtomic_94 : decode cMo_isAtomic 94 = .ok (.if_icmp .ne 7, 3) := by decide +kernel
theorem dMo_isAtomic_97 : decode cMo_isAtomic 97 = .ok (.iconst 1, 1) := by decide +kernel
theorem dMo_isAtomic_98 : decode cMo_isAtomic 98 = .ok (.goto 4, 3) := by decide +kernel
theorem dMo_isAtomic_101 : decode cMo_isAtomic 101 = .ok (.iconst 0, 1) := by decide +kernel
theorem dMo_isAtomic_102 : decode cMo_isAtomic 102 = .ok (.istore_n 2, 1) := by decide +kernel
theorem dMo_isAtomic_103 : decode cMo_isAtomic 103 = .ok (.aload_n 0, 1) := by decide +kernel
theorem dMo_isAtomic_104 : decode cMo_isAtomic 104 = .ok (.invokevirtual 67, 3) := by decide +kernel
theorem dMo_isAtomic_107 : decode cMo_isAtomic 107 = .ok (.iconst 2, 1) := by decide +kernel
theorem dMo_isAtomic_108 : decode cMo_isAtomic 108 = .ok (.if_icmp .le 42, 3) := by decide +kernel
theorem dMo_isAtomic_111 : decode cMo_isAtomic 111 = .ok (.aload_n 0, 1) := by decide +kernel
theorem dMo_isAtomic_112 : decode cMo_isAtomic 112 = .ok (.getfield 37, 3) := by decide +kernel
theorem dMo_isAtomic_115 : decode cMo_isAtomic 115 = .ok (.bipush 11, 2) := by decide +kernel
theorem dMo_isAtomic_117 : decode cMo_isAtomic 117 = .ok (.if_icmp .ge 33, 3) := by decide +kernel
theorem dMo_isAtomic_120 : decode cMo_isAtomic 120 = .ok (.iload_n 1, 1) := by decide +kernel
theorem dMo_isAtomic_121 : decode cMo_isAtomic 121 = .ok (.ifCond .eq 12, 3) := by decide +kernel
theorem dMo_isAtomic_124 : decode cMo_isAtomic 124 = .ok (.aload_n 0, 1) := by decide +kernel
theorem dMo_isAtomic_125 : decode cMo_isAtomic 125 = .ok (.getfield 40, 3) := by decide +kernel
theorem dMo_isAtomic_128 : decode cMo_isAtomic 128 = .ok (.bipush 10, 2) := by decide +kernel
theorem dMo_isAtomic_130 : decode cMo_isAtomic 130 = .ok (.if_icmp .lt 16, 3) := by decide +kernel
theorem dMo_isAtomic_133 : decode cMo_isAtomic 133 = .ok (.iload_n 2, 1) := by decide +kernel
theorem dMo_isAtomic_134 : decode cMo_isAtomic 134 = .ok (.ifCond .eq 16, 3) := by decide +kernel
theorem dMo_isAtomic_137 : decode cMo_isAtomic 137 = .ok (.aload_n 0, 1) := by decide +kernel
theorem dMo_isAtomic_138 : decode cMo_isAtomic 138 = .ok (.getfield 40, 3) := by decide +kernel
theorem dMo_isAtomic_141 : decode cMo_isAtomic 141 = .ok (.bipush 11, 2) := by decide +kernel
theorem dMo_isAtomic_143 : decode cMo_isAtomic 143 = .ok (.if_icmp .ge 7, 3) := by decide +kernel
theorem dMo_isAtomic_146 : decode cMo_isAtomic 146 = .ok (.iconst 1, 1) := by decide +kernel
theorem dMo_isAtomic_147 : decode cMo_isAtomic 147 = .ok (.goto 4, 3) := by decide +kernel
theorem dMo_isAtomic_150 : decode cMo_isAtomic 150 = .ok (.iconst 0, 1) := by decide +kernel
theorem dMo_isAtomic_151 : decode cMo_isAtomic 151 = .ok (.ireturn, 1) := by decide +kernel
theorem dMo_isInstruction_0 : decode cMo_isInstruction 0 = .ok (.aload_n 0, 1) := by decide +kernel
theorem dMo_isInstruction_1 : decode cMo_isInstruction 1 = .ok (.aload_n 1, 1) := by decide +kernel
theorem dMo_isInstruction_2 : decode cMo_isInstruction 2 = .ok (.iload_n 2, 1) := by decide +kernel
theorem dMo_isInstruction_3 : decode cMo_isInstruction 3 = .ok (.invokevirtual 70, 3) := by decide +kernel
theorem dMo_isInstruction_6 : decode cMo_isInstruction 6 = .ok (.aload_n 0, 1) := by decide +kernel
theorem dMo_isInstruction_7 : decode cMo_isInstruction 7 = .ok (.invokevirtual 57, 3) := by decide +kernel
theorem dMo_isInstruction_10 : decode cMo_isInstruction 10 = .ok (.tableswitch 201 1 7 #[52, 108, 138, 42, 47, 47, 42], 42) := by decide +kernel
theorem dMo_isInstruction_52 : decode cMo_isInstruction 52 = .ok (.aload_n 0, 1) := by decide +kernel
theorem dMo_isInstruction_53 : decode cMo_isInstruction 53 = .ok (.invokevirtual 74, 3) := by decide +kernel
theorem dMo_isInstruction_56 : decode cMo_isInstruction 56 = .ok (.ireturn, 1) := by decide +kernel
theorem dMo_isInstruction_57 : decode cMo_isInstruction 57 = .ok (.aload_n 0, 1) := by decide +kernel
theorem dMo_isInstruction_58 : decode cMo_isInstruction 58 = .ok (.invokevirtual 77, 3) := by decide +kernel
theorem dMo_isInstruction_61 : decode cMo_isInstruction 61 = .ok (.ireturn, 1) := by decide +kernel
theorem dMo_isInstruction_62 : decode cMo_isInstruction 62 = .ok (.aload_n 0, 1) := by decide +kernel
theorem dMo_isInstruction_63 : decode cMo_isInstruction 63 = .ok (.getfield 50, 3) := by decide +kernel
theorem dMo_isInstruction_66 : decode cMo_isInstruction 66 = .ok (.ifCond .ne 50, 3) := by decide +kernel
theorem dMo_isInstruction_69 : decode cMo_isInstruction 69 = .ok (.aload_n 0, 1) := by decide +kernel
theorem dMo_isInstruction_70 : decode cMo_isInstruction 70 = .ok (.getfield 37, 3) := by decide +kernel
theorem dMo_isInstruction_73 : decode cMo_isInstruction 73 = .ok (.bipush 10, 2) := by decide +kernel
theorem dMo_isInstruction_75 : decode cMo_isInstruction 75 = .ok (.if_icmp .ge 41, 3) := by decide +kernel
theorem dMo_isInstruction_78 : decode cMo_isInstruction 78 = .ok (.aload_n 0, 1) := by decide +kernel
theorem dMo_isInstruction_79 : decode cMo_isInstruction 79 = .ok (.getfield 40, 3) := by decide +kernel
theorem dMo_isInstruction_82 : decode cMo_isInstruction 82 = .ok (.bipush 11, 2) := by decide +kernel
theorem dMo_isInstruction_84 : decode cMo_isInstruction 84 = .ok (.if_icmp .ge 32, 3) := by decide +kernel
theorem dMo_isInstruction_87 : decode cMo_isInstruction 87 = .ok (.aload_n 0, 1) := by decide +kernel
theorem dMo_isInstruction_88 : decode cMo_isInstruction 88 = .ok (.invokevirtual 80, 3) := by decide +kernel
theorem dMo_isInstruction_91 : decode cMo_isInstruction 91 = .ok (.iconst 3, 1) := by decide +kernel
theorem dMo_isInstruction_92 : decode cMo_isInstruction 92 = .ok (.if_icmp .eq 20, 3) := by decide +kernel
theorem dMo_isInstruction_95 : decode cMo_isInstruction 95 = .ok (.aload_n 0, 1) := by decide +kernel
theorem dMo_isInstruction_96 : decode cMo_isInstruction 96 = .ok (.invokevirtual 80, 3) := by decide +kernel
theorem dMo_isInstruction_99 : decode cMo_isInstruction 99 = .ok (.iconst 4, 1) := by decide +kernel
theorem dMo_isInstruction_100 : decode cMo_isInstruction 100 = .ok (.if_icmp .ne 16, 3) := by decide +kernel
theorem dMo_isInstruction_103 : decode cMo_isInstruction 103 = .ok (.aload_n 0, 1) := by decide +kernel
theorem dMo_isInstruction_104 : decode cMo_isInstruction 104 = .ok (.invokevirtual 67, 3) := by decide +kernel
theorem dMo_isInstruction_107 : decode cMo_isInstruction 107 = .ok (.bipush 8, 2) := by decide +kernel
theorem dMo_isInstruction_109 : decode cMo_isInstruction 109 = .ok (.if_icmp .ge 7, 3) := by decide +kernel
theorem dMo_isInstruction_112 : decode cMo_isInstruction 112 = .ok (.iconst 1, 1) := by decide +kernel
theorem dMo_isInstruction_113 : decode cMo_isInstruction 113 = .ok (.goto 4, 3) := by decide +kernel
theorem dMo_isInstruction_116 : decode cMo_isInstruction 116 = .ok (.iconst 0, 1) := by decide +kernel
theorem dMo_isInstruction_117 : decode cMo_isInstruction 117 = .ok (.ireturn, 1) := by decide +kernel
theorem dMo_isInstruction_118 : decode cMo_isInstruction 118 = .ok (.aload_n 0, 1) := by decide +kernel
theorem dMo_isInstruction_119 : decode cMo_isInstruction 119 = .ok (.getfield 40, 3) := by decide +kernel
theorem dMo_isInstruction_122 : decode cMo_isInstruction 122 = .ok (.ifCond .ne 24, 3) := by decide +kernel
theorem dMo_isInstruction_125 : decode cMo_isInstruction 125 = .ok (.aload_n 0, 1) := by decide +kernel
theorem dMo_isInstruction_126 : decode cMo_isInstruction 126 = .ok (.getfield 37, 3) := by decide +kernel
theorem dMo_isInstruction_129 : decode cMo_isInstruction 129 = .ok (.bipush 11, 2) := by decide +kernel
theorem dMo_isInstruction_131 : decode cMo_isInstruction 131 = .ok (.if_icmp .ge 15, 3) := by decide +kernel
theorem dMo_isInstruction_134 : decode cMo_isInstruction 134 = .ok (.aload_n 0, 1) := by decide +kernel
theorem dMo_isInstruction_135 : decode cMo_isInstruction 135 = .ok (.invokevirtual 80, 3) := by decide +kernel
theorem dMo_isInstruction_138 : decode cMo_isInstruction 138 = .ok (.iconst 3, 1) := by decide +kernel
theorem dMo_isInstruction_139 : decode cMo_isInstruction 139 = .ok (.if_icmp .ne 7, 3) := by decide +kernel
theorem dMo_isInstruction_142 : decode cMo_isInstruction 142 = .ok (.iconst 1, 1) := by decide +kernel
theorem dMo_isInstruction_143 : decode cMo_isInstruction 143 = .ok (.goto 4, 3) := by decide +kernel
theorem dMo_isInstruction_146 : decode cMo_isInstruction 146 = .ok (.iconst 0, 1) := by decide +kernel
theorem dMo_isInstruction_147 : decode cMo_isInstruction 147 = .ok (.ireturn, 1) := by decide +kernel
theorem dMo_isInstruction_148 : decode cMo_isInstruction 148 = .ok (.aload_n 0, 1) := by decide +kernel
theorem dMo_isInstruction_149 : decode cMo_isInstruction 149 = .ok (.invokevirtual 80, 3) := by decide +kernel
theorem dMo_isInstruction_152 : decode cMo_isInstruction 152 = .ok (.iconst 3, 1) := by decide +kernel
theorem dMo_isInstruction_153 : decode cMo_isInstruction 153 = .ok (.if_icmp .ne 36, 3) := by decide +kernel
theorem dMo_isInstruction_156 : decode cMo_isInstruction 156 = .ok (.aload_n 0, 1) := by decide +kernel
theorem dMo_isInstruction_157 : decode cMo_isInstruction 157 = .ok (.getfield 50, 3) := by decide +kernel
theorem dMo_isInstruction_160 : decode cMo_isInstruction 160 = .ok (.ifCond .ne 25, 3) := by decide +kernel
theorem dMo_isInstruction_163 : decode cMo_isInstruction 163 = .ok (.aload_n 0, 1) := by decide +kernel
theorem dMo_isInstruction_164 : decode cMo_isInstruction 164 = .ok (.getfield 37, 3) := by decide +kernel
theorem dMo_isInstruction_167 : decode cMo_isInstruction 167 = .ok (.bipush 11, 2) := by decide +kernel
theorem dMo_isInstruction_169 : decode cMo_isInstruction 169 = .ok (.if_icmp .ge 16, 3) := by decide +kernel
theorem dMo_isInstruction_172 : decode cMo_isInstruction 172 = .ok (.aload_n 0, 1) := by decide +kernel
theorem dMo_isInstruction_173 : decode cMo_isInstruction 173 = .ok (.getfield 40, 3) := by decide +kernel
theorem dMo_isInstruction_176 : decode cMo_isInstruction 176 = .ok (.bipush 11, 2) := by decide +kernel
theorem dMo_isInstruction_178 : decode cMo_isInstruction 178 = .ok (.if_icmp .ge 7, 3) := by decide +kernel
theorem dMo_isInstruction_181 : decode cMo_isInstruction 181 = .ok (.iconst 1, 1) := by decide +kernel
theorem dMo_isInstruction_182 : decode cMo_isInstruction 182 = .ok (.goto 28, 3) := by decide +kernel
theorem dMo_isInstruction_185 : decode cMo_isInstruction 185 = .ok (.iconst 0, 1) := by decide +kernel
theorem dMo_isInstruction_186 : decode cMo_isInstruction 186 = .ok (.goto 24, 3) := by decide +kernel
theorem dMo_isInstruction_189 : decode cMo_isInstruction 189 = .ok (.aload_n 0, 1) := by decide +kernel
theorem dMo_isInstruction_190 : decode cMo_isInstruction 190 = .ok (.invokevirtual 80, 3) := by decide +kernel
theorem dMo_isInstruction_193 : decode cMo_isInstruction 193 = .ok (.bipush 6, 2) := by decide +kernel
theorem dMo_isInstruction_195 : decode cMo_isInstruction 195 = .ok (.if_icmp .ne 14, 3) := by decide +kernel
theorem dMo_isInstruction_198 : decode cMo_isInstruction 198 = .ok (.aload_n 0, 1) := by decide +kernel
theorem dMo_isInstruction_199 : decode cMo_isInstruction 199 = .ok (.invokevirtual 83, 3) := by decide +kernel
theorem dMo_isInstruction_202 : decode cMo_isInstruction 202 = .ok (.ifCond .eq 7, 3) := by decide +kernel
theorem dMo_isInstruction_205 : decode cMo_isInstruction 205 = .ok (.iconst 1, 1) := by decide +kernel
theorem dMo_isInstruction_206 : decode cMo_isInstruction 206 = .ok (.goto 4, 3) := by decide +kernel
theorem dMo_isInstruction_209 : decode cMo_isInstruction 209 = .ok (.iconst 0, 1) := by decide +kernel
theorem dMo_isInstruction_210 : decode cMo_isInstruction 210 = .ok (.ireturn, 1) := by decide +kernel
theorem dMo_isInstruction_211 : decode cMo_isInstruction 211 = .ok (.aload_n 0, 1) := by decide +kernel
theorem dMo_isInstruction_212 : decode cMo_isInstruction 212 = .ok (.invokevirtual 86, 3) := by decide +kernel
theorem dMo_isInstruction_215 : decode cMo_isInstruction 215 = .ok (.ifCond .eq 38, 3) := by decide +kernel
theorem dMo_isInstruction_218 : decode cMo_isInstruction 218 = .ok (.aload_n 0, 1) := by decide +kernel
theorem dMo_isInstruction_219 : decode cMo_isInstruction 219 = .ok (.getfield 37, 3) := by decide +kernel
theorem dMo_isInstruction_222 : decode cMo_isInstruction 222 = .ok (.bipush 10, 2) := by decide +kernel
theorem dMo_isInstruction_224 : decode cMo_isInstruction 224 = .ok (.if_icmp .ge 29, 3) := by decide +kernel
theorem dMo_isInstruction_227 : decode cMo_isInstruction 227 = .ok (.aload_n 0, 1) := by decide +kernel
theorem dMo_isInstruction_228 : decode cMo_isInstruction 228 = .ok (.getfield 40, 3) := by decide +kernel
theorem dMo_isInstruction_231 : decode cMo_isInstruction 231 = .ok (.iconst 2, 1) := by decide +kernel
theorem dMo_isInstruction_232 : decode cMo_isInstruction 232 = .ok (.if_icmp .ge 21, 3) := by decide +kernel
theorem dMo_isInstruction_235 : decode cMo_isInstruction 235 = .ok (.aload_n 0, 1) := by decide +kernel
theorem dMo_isInstruction_236 : decode cMo_isInstruction 236 = .ok (.getfield 47, 3) := by decide +kernel
theorem dMo_isInstruction_239 : decode cMo_isInstruction 239 = .ok (.ifCond .ne 14, 3) := by decide +kernel
theorem dMo_isInstruction_242 : decode cMo_isInstruction 242 = .ok (.iload_n 2, 1) := by decide +kernel
theorem dMo_isInstruction_243 : decode cMo_isInstruction 243 = .ok (.iconst 1, 1) := by decide +kernel
theorem dMo_isInstruction_244 : decode cMo_isInstruction 244 = .ok (.iadd, 1) := by decide +kernel
theorem dMo_isInstruction_245 : decode cMo_isInstruction 245 = .ok (.iload_n 3, 1) := by decide +kernel
theorem dMo_isInstruction_246 : decode cMo_isInstruction 246 = .ok (.if_icmp .ge 7, 3) := by decide +kernel
theorem dMo_isInstruction_249 : decode cMo_isInstruction 249 = .ok (.iconst 1, 1) := by decide +kernel
theorem dMo_isInstruction_250 : decode cMo_isInstruction 250 = .ok (.goto 4, 3) := by decide +kernel
theorem dMo_isInstruction_253 : decode cMo_isInstruction 253 = .ok (.iconst 0, 1) := by decide +kernel
theorem dMo_isInstruction_254 : decode cMo_isInstruction 254 = .ok (.istore 4, 2) := by decide +kernel
theorem dMo_isInstruction_256 : decode cMo_isInstruction 256 = .ok (.iload 4, 2) := by decide +kernel
theorem dMo_isInstruction_258 : decode cMo_isInstruction 258 = .ok (.ifCond .eq 22, 3) := by decide +kernel
theorem dMo_isInstruction_261 : decode cMo_isInstruction 261 = .ok (.aload_n 1, 1) := by decide +kernel
theorem dMo_isInstruction_262 : decode cMo_isInstruction 262 = .ok (.bipush 8, 2) := by decide +kernel
theorem dMo_isInstruction_264 : decode cMo_isInstruction 264 = .ok (.iload_n 2, 1) := by decide +kernel
theorem dMo_isInstruction_265 : decode cMo_isInstruction 265 = .ok (.imul, 1) := by decide +kernel
theorem dMo_isInstruction_266 : decode cMo_isInstruction 266 = .ok (.bipush 8, 2) := by decide +kernel
theorem dMo_isInstruction_268 : decode cMo_isInstruction 268 = .ok (.iadd, 1) := by decide +kernel
theorem dMo_isInstruction_269 : decode cMo_isInstruction 269 = .ok (.iconst 4, 1) := by decide +kernel
theorem dMo_isInstruction_270 : decode cMo_isInstruction 270 = .ok (.invokestatic 43, 3) := by decide +kernel
theorem dMo_isInstruction_273 : decode cMo_isInstruction 273 = .ok (.ifCond .ne 7, 3) := by decide +kernel
theorem dMo_isInstruction_276 : decode cMo_isInstruction 276 = .ok (.iconst 1, 1) := by decide +kernel
theorem dMo_isInstruction_277 : decode cMo_isInstruction 277 = .ok (.goto 4, 3) := by decide +kernel
theorem dMo_isInstruction_280 : decode cMo_isInstruction 280 = .ok (.iconst 0, 1) := by decide +kernel
theorem dMo_isInstruction_281 : decode cMo_isInstruction 281 = .ok (.istore 5, 2) := by decide +kernel
theorem dMo_isInstruction_283 : decode cMo_isInstruction 283 = .ok (.iload 5, 2) := by decide +kernel
theorem dMo_isInstruction_285 : decode cMo_isInstruction 285 = .ok (.ifCond .eq 36, 3) := by decide +kernel
theorem dMo_isInstruction_288 : decode cMo_isInstruction 288 = .ok (.aload_n 0, 1) := by decide +kernel
theorem dMo_isInstruction_289 : decode cMo_isInstruction 289 = .ok (.getfield 40, 3) := by decide +kernel
theorem dMo_isInstruction_292 : decode cMo_isInstruction 292 = .ok (.ifCond .eq 25, 3) := by decide +kernel
theorem dMo_isInstruction_295 : decode cMo_isInstruction 295 = .ok (.aload_n 0, 1) := by decide +kernel
theorem dMo_isInstruction_296 : decode cMo_isInstruction 296 = .ok (.getfield 50, 3) := by decide +kernel
theorem dMo_isInstruction_299 : decode cMo_isInstruction 299 = .ok (.ifCond .lt 22, 3) := by decide +kernel
theorem dMo_isInstruction_302 : decode cMo_isInstruction 302 = .ok (.aload_n 1, 1) := by decide +kernel
theorem dMo_isInstruction_303 : decode cMo_isInstruction 303 = .ok (.bipush 8, 2) := by decide +kernel
theorem dMo_isInstruction_305 : decode cMo_isInstruction 305 = .ok (.iload_n 2, 1) := by decide +kernel
theorem dMo_isInstruction_306 : decode cMo_isInstruction 306 = .ok (.imul, 1) := by decide +kernel
theorem dMo_isInstruction_307 : decode cMo_isInstruction 307 = .ok (.bipush 12, 2) := by decide +kernel
theorem dMo_isInstruction_309 : decode cMo_isInstruction 309 = .ok (.iadd, 1) := by decide +kernel
theorem dMo_isInstruction_310 : decode cMo_isInstruction 310 = .ok (.iconst 4, 1) := by decide +kernel
theorem dMo_isInstruction_311 : decode cMo_isInstruction 311 = .ok (.invokestatic 43, 3) := by decide +kernel
theorem dMo_isInstruction_314 : decode cMo_isInstruction 314 = .ok (.ifCond .ne 7, 3) := by decide +kernel
theorem dMo_isInstruction_317 : decode cMo_isInstruction 317 = .ok (.iconst 1, 1) := by decide +kernel
theorem dMo_isInstruction_318 : decode cMo_isInstruction 318 = .ok (.goto 4, 3) := by decide +kernel
theorem dMo_isInstruction_321 : decode cMo_isInstruction 321 = .ok (.iconst 0, 1) := by decide +kernel
theorem dMo_isInstruction_322 : decode cMo_isInstruction 322 = .ok (.ireturn, 1) := by decide +kernel
