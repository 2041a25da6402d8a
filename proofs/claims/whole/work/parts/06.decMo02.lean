theorem dMo_hasSource_0 : decode cMo_hasSource 0 = .ok (.aload_n 0, 1) := by decide +kernel
theorem dMo_hasSource_1 : decode cMo_hasSource 1 = .ok (.invokevirtual 53, 3) := by decide +kernel
theorem dMo_hasSource_4 : decode cMo_hasSource 4 = .ok (.ifCond .eq 27, 3) := by decide +kernel
theorem dMo_hasSource_7 : decode cMo_hasSource 7 = .ok (.aload_n 0, 1) := by decide +kernel
theorem dMo_hasSource_8 : decode cMo_hasSource 8 = .ok (.getfield 40, 3) := by decide +kernel
theorem dMo_hasSource_11 : decode cMo_hasSource 11 = .ok (.bipush 11, 2) := by decide +kernel
theorem dMo_hasSource_13 : decode cMo_hasSource 13 = .ok (.if_icmp .ge 14, 3) := by decide +kernel
theorem dMo_hasSource_16 : decode cMo_hasSource 16 = .ok (.aload_n 0, 1) := by decide +kernel
theorem dMo_hasSource_17 : decode cMo_hasSource 17 = .ok (.getfield 50, 3) := by decide +kernel
theorem dMo_hasSource_20 : decode cMo_hasSource 20 = .ok (.ifCond .ne 7, 3) := by decide +kernel
theorem dMo_hasSource_23 : decode cMo_hasSource 23 = .ok (.iconst 1, 1) := by decide +kernel
theorem dMo_hasSource_24 : decode cMo_hasSource 24 = .ok (.goto 19, 3) := by decide +kernel
theorem dMo_hasSource_27 : decode cMo_hasSource 27 = .ok (.iconst 0, 1) := by decide +kernel
theorem dMo_hasSource_28 : decode cMo_hasSource 28 = .ok (.goto 15, 3) := by decide +kernel
theorem dMo_hasSource_31 : decode cMo_hasSource 31 = .ok (.aload_n 0, 1) := by decide +kernel
theorem dMo_hasSource_32 : decode cMo_hasSource 32 = .ok (.getfield 40, 3) := by decide +kernel
theorem dMo_hasSource_35 : decode cMo_hasSource 35 = .ok (.ifCond .ne 7, 3) := by decide +kernel
theorem dMo_hasSource_38 : decode cMo_hasSource 38 = .ok (.iconst 1, 1) := by decide +kernel
theorem dMo_hasSource_39 : decode cMo_hasSource 39 = .ok (.goto 4, 3) := by decide +kernel
theorem dMo_hasSource_42 : decode cMo_hasSource 42 = .ok (.iconst 0, 1) := by decide +kernel
theorem dMo_hasSource_43 : decode cMo_hasSource 43 = .ok (.ireturn, 1) := by decide +kernel
theorem dMo_isArithmetic_0 : decode cMo_isArithmetic 0 = .ok (.aload_n 0, 1) := by decide +kernel
theorem dMo_isArithmetic_1 : decode cMo_isArithmetic 1 = .ok (.invokevirtual 57, 3) := by decide +kernel
theorem dMo_isArithmetic_4 : decode cMo_isArithmetic 4 = .ok (.bipush 7, 2) := by decide +kernel
theorem dMo_isArithmetic_6 : decode cMo_isArithmetic 6 = .ok (.if_icmp .ne 7, 3) := by decide +kernel
theorem dMo_isArithmetic_9 : decode cMo_isArithmetic 9 = .ok (.iconst 1, 1) := by decide +kernel
theorem dMo_isArithmetic_10 : decode cMo_isArithmetic 10 = .ok (.goto 4, 3) := by decide +kernel
theorem dMo_isArithmetic_13 : decode cMo_isArithmetic 13 = .ok (.iconst 0, 1) := by decide +kernel
theorem dMo_isArithmetic_14 : decode cMo_isArithmetic 14 = .ok (.istore_n 1, 1) := by decide +kernel
theorem dMo_isArithmetic_15 : decode cMo_isArithmetic 15 = .ok (.aload_n 0, 1) := by decide +kernel
theorem dMo_isArithmetic_16 : decode cMo_isArithmetic 16 = .ok (.getfield 37, 3) := by decide +kernel
theorem dMo_isArithmetic_19 : decode cMo_isArithmetic 19 = .ok (.bipush 9, 2) := by decide +kernel
theorem dMo_isArithmetic_21 : decode cMo_isArithmetic 21 = .ok (.if_icmp .le 5, 3) := by decide +kernel
theorem dMo_isArithmetic_24 : decode cMo_isArithmetic 24 = .ok (.iconst 0, 1) := by decide +kernel
theorem dMo_isArithmetic_25 : decode cMo_isArithmetic 25 = .ok (.ireturn, 1) := by decide +kernel
theorem dMo_isArithmetic_26 : decode cMo_isArithmetic 26 = .ok (.aload_n 0, 1) := by decide +kernel
theorem dMo_isArithmetic_27 : decode cMo_isArithmetic 27 = .ok (.getfield 40, 3) := by decide +kernel
theorem dMo_isArithmetic_30 : decode cMo_isArithmetic 30 = .ok (.ifCond .ne 41, 3) := by decide +kernel
theorem dMo_isArithmetic_33 : decode cMo_isArithmetic 33 = .ok (.aload_n 0, 1) := by decide +kernel
theorem dMo_isArithmetic_34 : decode cMo_isArithmetic 34 = .ok (.getfield 47, 3) := by decide +kernel
theorem dMo_isArithmetic_37 : decode cMo_isArithmetic 37 = .ok (.ifCond .ne 34, 3) := by decide +kernel
theorem dMo_isArithmetic_40 : decode cMo_isArithmetic 40 = .ok (.aload_n 0, 1) := by decide +kernel
theorem dMo_isArithmetic_41 : decode cMo_isArithmetic 41 = .ok (.getfield 50, 3) := by decide +kernel
theorem dMo_isArithmetic_44 : decode cMo_isArithmetic 44 = .ok (.bipush 16, 2) := by decide +kernel
theorem dMo_isArithmetic_46 : decode cMo_isArithmetic 46 = .ok (.if_icmp .eq 21, 3) := by decide +kernel
theorem dMo_isArithmetic_49 : decode cMo_isArithmetic 49 = .ok (.aload_n 0, 1) := by decide +kernel
theorem dMo_isArithmetic_50 : decode cMo_isArithmetic 50 = .ok (.getfield 50, 3) := by decide +kernel
theorem dMo_isArithmetic_53 : decode cMo_isArithmetic 53 = .ok (.bipush 32, 2) := by decide +kernel
theorem dMo_isArithmetic_55 : decode cMo_isArithmetic 55 = .ok (.if_icmp .eq 12, 3) := by decide +kernel
theorem dMo_isArithmetic_58 : decode cMo_isArithmetic 58 = .ok (.aload_n 0, 1) := by decide +kernel
theorem dMo_isArithmetic_59 : decode cMo_isArithmetic 59 = .ok (.getfield 50, 3) := by decide +kernel
theorem dMo_isArithmetic_62 : decode cMo_isArithmetic 62 = .ok (.bipush 64, 2) := by decide +kernel
theorem dMo_isArithmetic_64 : decode cMo_isArithmetic 64 = .ok (.if_icmp .ne 7, 3) := by decide +kernel
theorem dMo_isArithmetic_67 : decode cMo_isArithmetic 67 = .ok (.iconst 1, 1) := by decide +kernel
theorem dMo_isArithmetic_68 : decode cMo_isArithmetic 68 = .ok (.goto 4, 3) := by decide +kernel
theorem dMo_isArithmetic_71 : decode cMo_isArithmetic 71 = .ok (.iconst 0, 1) := by decide +kernel
theorem dMo_isArithmetic_72 : decode cMo_isArithmetic 72 = .ok (.istore_n 2, 1) := by decide +kernel
theorem dMo_isArithmetic_73 : decode cMo_isArithmetic 73 = .ok (.aload_n 0, 1) := by decide +kernel
theorem dMo_isArithmetic_74 : decode cMo_isArithmetic 74 = .ok (.invokevirtual 61, 3) := by decide +kernel
theorem dMo_isArithmetic_77 : decode cMo_isArithmetic 77 = .ok (.tableswitch 200 3 13 #[114, 200, 200, 200, 200, 59, 114, 200, 142, 200, 93], 59) := by decide +kernel
theorem dMo_isArithmetic_136 : decode cMo_isArithmetic 136 = .ok (.aload_n 0, 1) := by decide +kernel
theorem dMo_isArithmetic_137 : decode cMo_isArithmetic 137 = .ok (.invokevirtual 53, 3) := by decide +kernel
theorem dMo_isArithmetic_140 : decode cMo_isArithmetic 140 = .ok (.ifCond .ne 28, 3) := by decide +kernel
theorem dMo_isArithmetic_143 : decode cMo_isArithmetic 143 = .ok (.aload_n 0, 1) := by decide +kernel
theorem dMo_isArithmetic_144 : decode cMo_isArithmetic 144 = .ok (.getfield 50, 3) := by decide +kernel
theorem dMo_isArithmetic_147 : decode cMo_isArithmetic 147 = .ok (.ifCond .ne 21, 3) := by decide +kernel
theorem dMo_isArithmetic_150 : decode cMo_isArithmetic 150 = .ok (.aload_n 0, 1) := by decide +kernel
theorem dMo_isArithmetic_151 : decode cMo_isArithmetic 151 = .ok (.getfield 40, 3) := by decide +kernel
theorem dMo_isArithmetic_154 : decode cMo_isArithmetic 154 = .ok (.ifCond .ne 14, 3) := by decide +kernel
theorem dMo_isArithmetic_157 : decode cMo_isArithmetic 157 = .ok (.aload_n 0, 1) := by decide +kernel
theorem dMo_isArithmetic_158 : decode cMo_isArithmetic 158 = .ok (.getfield 47, 3) := by decide +kernel
theorem dMo_isArithmetic_161 : decode cMo_isArithmetic 161 = .ok (.ifCond .ne 7, 3) := by decide +kernel
theorem dMo_isArithmetic_164 : decode cMo_isArithmetic 164 = .ok (.iconst 1, 1) := by decide +kernel
theorem dMo_isArithmetic_165 : decode cMo_isArithmetic 165 = .ok (.goto 4, 3) := by decide +kernel
theorem dMo_isArithmetic_168 : decode cMo_isArithmetic 168 = .ok (.iconst 0, 1) := by decide +kernel
theorem dMo_isArithmetic_169 : decode cMo_isArithmetic 169 = .ok (.ireturn, 1) := by decide +kernel
theorem dMo_isArithmetic_170 : decode cMo_isArithmetic 170 = .ok (.iload_n 2, 1) := by decide +kernel
theorem dMo_isArithmetic_171 : decode cMo_isArithmetic 171 = .ok (.ifCond .eq 18, 3) := by decide +kernel
theorem dMo_isArithmetic_174 : decode cMo_isArithmetic 174 = .ok (.iload_n 1, 1) := by decide +kernel
theorem dMo_isArithmetic_175 : decode cMo_isArithmetic 175 = .ok (.ifCond .eq 10, 3) := by decide +kernel
theorem dMo_isArithmetic_178 : decode cMo_isArithmetic 178 = .ok (.aload_n 0, 1) := by decide +kernel
theorem dMo_isArithmetic_179 : decode cMo_isArithmetic 179 = .ok (.invokevirtual 53, 3) := by decide +kernel
theorem dMo_isArithmetic_182 : decode cMo_isArithmetic 182 = .ok (.ifCond .ne 7, 3) := by decide +kernel
theorem dMo_isArithmetic_185 : decode cMo_isArithmetic 185 = .ok (.iconst 1, 1) := by decide +kernel
theorem dMo_isArithmetic_186 : decode cMo_isArithmetic 186 = .ok (.goto 4, 3) := by decide +kernel
theorem dMo_isArithmetic_189 : decode cMo_isArithmetic 189 = .ok (.iconst 0, 1) := by decide +kernel
theorem dMo_isArithmetic_190 : decode cMo_isArithmetic 190 = .ok (.ireturn, 1) := by decide +kernel
theorem dMo_isArithmetic_191 : decode cMo_isArithmetic 191 = .ok (.aload_n 0, 1) := by decide +kernel
theorem dMo_isArithmetic_192 : decode cMo_isArithmetic 192 = .ok (.invokevirtual 64, 3) := by decide +kernel
theorem dMo_isArithmetic_195 : decode cMo_isArithmetic 195 = .ok (.ifCond .eq 22, 3) := by decide +kernel
theorem dMo_isArithmetic_198 : decode cMo_isArithmetic 198 = .ok (.aload_n 0, 1) := by decide +kernel
theorem dMo_isArithmetic_199 : decode cMo_isArithmetic 199 = .ok (.getfield 47, 3) := by decide +kernel
theorem dMo_isArithmetic_202 : decode cMo_isArithmetic 202 = .ok (.ifCond .eq 11, 3) := by decide +kernel
theorem dMo_isArithmetic_205 : decode cMo_isArithmetic 205 = .ok (.aload_n 0, 1) := by decide +kernel
theorem dMo_isArithmetic_206 : decode cMo_isArithmetic 206 = .ok (.getfield 47, 3) := by decide +kernel
theorem dMo_isArithmetic_209 : decode cMo_isArithmetic 209 = .ok (.iconst 1, 1) := by decide +kernel
theorem dMo_isArithmetic_210 : decode cMo_isArithmetic 210 = .ok (.if_icmp .ne 7, 3) := by decide +kernel
theorem dMo_isArithmetic_213 : decode cMo_isArithmetic 213 = .ok (.iconst 1, 1) := by decide +kernel
theorem dMo_isArithmetic_214 : decode cMo_isArithmetic 214 = .ok (.goto 4, 3) := by decide +kernel
theorem dMo_isArithmetic_217 : decode cMo_isArithmetic 217 = .ok (.iconst 0, 1) := by decide +kernel
theorem dMo_isArithmetic_218 : decode cMo_isArithmetic 218 = .ok (.ireturn, 1) := by decide +kernel
theorem dMo_isArithmetic_219 : decode cMo_isArithmetic 219 = .ok (.aload_n 0, 1) := by decide +kernel
theorem dMo_isArithmetic_220 : decode cMo_isArithmetic 220 = .ok (.invokevirtual 64, 3) := by decide +kernel
theorem dMo_isArithmetic_223 : decode cMo_isArithmetic 223 = .ok (.ifCond .eq 52, 3) := by decide +kernel
theorem dMo_isArithmetic_226 : decode cMo_isArithmetic 226 = .ok (.aload_n 0, 1) := by decide +kernel
theorem dMo_isArithmetic_227 : decode cMo_isArithmetic 227 = .ok (.getfield 47, 3) := by decide +kernel
theorem dMo_isArithmetic_230 : decode cMo_isArithmetic 230 = .ok (.ifCond .eq 41, 3) := by decide +kernel
theorem dMo_isArithmetic_233 : decode cMo_isArithmetic 233 = .ok (.aload_n 0, 1) := by decide +kernel
theorem dMo_isArithmetic_234 : decode cMo_isArithmetic 234 = .ok (.invokevirtual 53, 3) := by decide +kernel
theorem dMo_isArithmetic_237 : decode cMo_isArithmetic 237 = .ok (.ifCond .eq 38, 3) := by decide +kernel
theorem dMo_isArithmetic_240 : decode cMo_isArithmetic 240 = .ok (.aload_n 0, 1) := by decide +kernel
theorem dMo_isArithmetic_241 : decode cMo_isArithmetic 241 = .ok (.getfield 47, 3) := by decide +kernel
theorem dMo_isArithmetic_244 : decode cMo_isArithmetic 244 = .ok (.bipush 8, 2) := by decide +kernel
theorem dMo_isArithmetic_246 : decode cMo_isArithmetic 246 = .ok (.if_icmp .eq 25, 3) := by decide +kernel
theorem dMo_isArithmetic_249 : decode cMo_isArithmetic 249 = .ok (.aload_n 0, 1) := by decide +kernel
theorem dMo_isArithmetic_250 : decode cMo_isArithmetic 250 = .ok (.getfield 47, 3) := by decide +kernel
theorem dMo_isArithmetic_253 : decode cMo_isArithmetic 253 = .ok (.bipush 16, 2) := by decide +kernel
theorem dMo_isArithmetic_255 : decode cMo_isArithmetic 255 = .ok (.if_icmp .eq 16, 3) := by decide +kernel
theorem dMo_isArithmetic_258 : decode cMo_isArithmetic 258 = .ok (.iload_n 1, 1) := by decide +kernel
theorem dMo_isArithmetic_259 : decode cMo_isArithmetic 259 = .ok (.ifCond .eq 16, 3) := by decide +kernel
theorem dMo_isArithmetic_262 : decode cMo_isArithmetic 262 = .ok (.aload_n 0, 1) := by decide +kernel
theorem dMo_isArithmetic_263 : decode cMo_isArithmetic 263 = .ok (.getfield 47, 3) := by decide +kernel
theorem dMo_isArithmetic_266 : decode cMo_isArithmetic 266 = .ok (.bipush 32, 2) := by decide +kernel
theorem dMo_isArithmetic_268 : decode cMo_isArithmetic 268 = .ok (.if_icmp .ne 7, 3) := by decide +kernel
theorem dMo_isArithmetic_271 : decode cMo_isArithmetic 271 = .ok (.iconst 1, 1) := by decide +kernel
theorem dMo_isArithmetic_272 : decode cMo_isArithmetic 272 = .ok (.goto 4, 3) := by decide +kernel
theorem dMo_isArithmetic_275 : decode cMo_isArithmetic 275 = .ok (.iconst 0, 1) := by decide +kernel
theorem dMo_isArithmetic_276 : decode cMo_isArithmetic 276 = .ok (.ireturn, 1) := by decide +kernel
theorem dMo_isArithmetic_277 : decode cMo_isArithmetic 277 = .ok (.aload_n 0, 1) := by decide +kernel
theorem dMo_isArithmetic_278 : decode cMo_isArithmetic 278 = .ok (.invokevirtual 61, 3) := by decide +kernel
theorem dMo_isArithmetic_281 : decode cMo_isArithmetic 281 = .ok (.bipush 13, 2) := by decide +kernel
theorem dMo_isArithmetic_283 : decode cMo_isArithmetic 283 = .ok (.if_icmp .ge 21, 3) := by decide +kernel
theorem dMo_isArithmetic_286 : decode cMo_isArithmetic 286 = .ok (.aload_n 0, 1) := by decide +kernel
theorem dMo_isArithmetic_287 : decode cMo_isArithmetic 287 = .ok (.invokevirtual 64, 3) := by decide +kernel
theorem dMo_isArithmetic_290 : decode cMo_isArithmetic 290 = .ok (.ifCond .eq 14, 3) := by decide +kernel
theorem dMo_isArithmetic_293 : decode cMo_isArithmetic 293 = .ok (.aload_n 0, 1) := by decide +kernel
theorem dMo_isArithmetic_294 : decode cMo_isArithmetic 294 = .ok (.getfield 47, 3) := by decide +kernel
theorem dMo_isArithmetic_297 : decode cMo_isArithmetic 297 = .ok (.ifCond .ne 7, 3) := by decide +kernel
theorem dMo_isArithmetic_300 : decode cMo_isArithmetic 300 = .ok (.iconst 1, 1) := by decide +kernel
theorem dMo_isArithmetic_301 : decode cMo_isArithmetic 301 = .ok (.goto 4, 3) := by decide +kernel
theorem dMo_isArithmetic_304 : decode cMo_isArithmetic 304 = .ok (.iconst 0, 1) := by decide +kernel
theorem dMo_isArithmetic_305 : decode cMo_isArithmetic 305 = .ok (.ireturn, 1) := by decide +kernel
theorem dMo_isJump_0 : decode cMo_isJump 0 = .ok (.aload_n 0, 1) := by decide +kernel
theorem dMo_isJump_1 : decode cMo_isJump 1 = .ok (.invokevirtual 57, 3) := by decide +kernel
theorem dMo_isJump_4 : decode cMo_isJump 4 = .ok (.bipush 6, 2) := by decide +kernel
theorem dMo_isJump_6 : decode cMo_isJump 6 = .ok (.if_icmp .ne 7, 3) := by decide +kernel
theorem dMo_isJump_9 : decode cMo_isJump 9 = .ok (.iconst 1, 1) := by decide +kernel
theorem dMo_isJump_10 : decode cMo_isJump 10 = .ok (.goto 4, 3) := by decide +kernel
theorem dMo_isJump_13 : decode cMo_isJump 13 = .ok (.iconst 0, 1) := by decide +kernel
theorem dMo_isJump_14 : decode cMo_isJump 14 = .ok (.istore_n 1, 1) := by decide +kernel
theorem dMo_isJump_15 : decode cMo_isJump 15 = .ok (.aload_n 0, 1) := by decide +kernel
theorem dMo_isJump_16 : decode cMo_isJump 16 = .ok (.invokevirtual 61, 3) := by decide +kernel
theorem dMo_isJump_19 : decode cMo_isJump 19 = .ok (.lookupswitch 170 #[(0, 33), (8, 81), (9, 122)], 33) := by decide +kernel
theorem dMo_isJump_52 : decode cMo_isJump 52 = .ok (.aload_n 0, 1) := by decide +kernel
theorem dMo_isJump_53 : decode cMo_isJump 53 = .ok (.invokevirtual 53, 3) := by decide +kernel
theorem dMo_isJump_56 : decode cMo_isJump 56 = .ok (.ifCond .ne 42, 3) := by decide +kernel
theorem dMo_isJump_59 : decode cMo_isJump 59 = .ok (.aload_n 0, 1) := by decide +kernel
theorem dMo_isJump_60 : decode cMo_isJump 60 = .ok (.getfield 37, 3) := by decide +kernel
theorem dMo_isJump_63 : decode cMo_isJump 63 = .ok (.ifCond .ne 35, 3) := by decide +kernel
theorem dMo_isJump_66 : decode cMo_isJump 66 = .ok (.aload_n 0, 1) := by decide +kernel
theorem dMo_isJump_67 : decode cMo_isJump 67 = .ok (.getfield 40, 3) := by decide +kernel
theorem dMo_isJump_70 : decode cMo_isJump 70 = .ok (.ifCond .ne 28, 3) := by decide +kernel
theorem dMo_isJump_73 : decode cMo_isJump 73 = .ok (.iload_n 1, 1) := by decide +kernel
theorem dMo_isJump_74 : decode cMo_isJump 74 = .ok (.ifCond .eq 13, 3) := by decide +kernel
theorem dMo_isJump_77 : decode cMo_isJump 77 = .ok (.aload_n 0, 1) := by decide +kernel
theorem dMo_isJump_78 : decode cMo_isJump 78 = .ok (.getfield 47, 3) := by decide +kernel
theorem dMo_isJump_81 : decode cMo_isJump 81 = .ok (.ifCond .ne 17, 3) := by decide +kernel
theorem dMo_isJump_84 : decode cMo_isJump 84 = .ok (.goto 10, 3) := by decide +kernel
theorem dMo_isJump_87 : decode cMo_isJump 87 = .ok (.aload_n 0, 1) := by decide +kernel
theorem dMo_isJump_88 : decode cMo_isJump 88 = .ok (.getfield 50, 3) := by decide +kernel
theorem dMo_isJump_91 : decode cMo_isJump 91 = .ok (.ifCond .ne 7, 3) := by decide +kernel
theorem dMo_isJump_94 : decode cMo_isJump 94 = .ok (.iconst 1, 1) := by decide +kernel
theorem dMo_isJump_95 : decode cMo_isJump 95 = .ok (.goto 4, 3) := by decide +kernel
theorem dMo_isJump_98 : decode cMo_isJump 98 = .ok (.iconst 0, 1) := by decide +kernel
theorem dMo_isJump_99 : decode cMo_isJump 99 = .ok (.ireturn, 1) := by decide +kernel
theorem dMo_isJump_100 : decode cMo_isJump 100 = .ok (.iload_n 1, 1) := by decide +kernel
theorem dMo_isJump_101 : decode cMo_isJump 101 = .ok (.ifCond .ne 38, 3) := by decide +kernel
theorem dMo_isJump_104 : decode cMo_isJump 104 = .ok (.aload_n 0, 1) := by decide +kernel
theorem dMo_isJump_105 : decode cMo_isJump 105 = .ok (.getfield 34, 3) := by decide +kernel
theorem dMo_isJump_108 : decode cMo_isJump 108 = .ok (.sipush 133, 3) := by decide +kernel
theorem dMo_isJump_111 : decode cMo_isJump 111 = .ok (.if_icmp .ne 28, 3) := by decide +kernel
theorem dMo_isJump_114 : decode cMo_isJump 114 = .ok (.aload_n 0, 1) := by decide +kernel
theorem dMo_isJump_115 : decode cMo_isJump 115 = .ok (.getfield 37, 3) := by decide +kernel
theorem dMo_isJump_118 : decode cMo_isJump 118 = .ok (.ifCond .ne 21, 3) := by decide +kernel
theorem dMo_isJump_121 : decode cMo_isJump 121 = .ok (.aload_n 0, 1) := by decide +kernel
theorem dMo_isJump_122 : decode cMo_isJump 122 = .ok (.getfield 40, 3) := by decide +kernel
theorem dMo_isJump_125 : decode cMo_isJump 125 = .ok (.ifCond .ne 14, 3) := by decide +kernel
theorem dMo_isJump_128 : decode cMo_isJump 128 = .ok (.aload_n 0, 1) := by decide +kernel
theorem dMo_isJump_129 : decode cMo_isJump 129 = .ok (.getfield 47, 3) := by decide +kernel
theorem dMo_isJump_132 : decode cMo_isJump 132 = .ok (.ifCond .ne 7, 3) := by decide +kernel
theorem dMo_isJump_135 : decode cMo_isJump 135 = .ok (.iconst 1, 1) := by decide +kernel
theorem dMo_isJump_136 : decode cMo_isJump 136 = .ok (.goto 4, 3) := by decide +kernel
theorem dMo_isJump_139 : decode cMo_isJump 139 = .ok (.iconst 0, 1) := by decide +kernel
theorem dMo_isJump_140 : decode cMo_isJump 140 = .ok (.ireturn, 1) := by decide +kernel
theorem dMo_isJump_141 : decode cMo_isJump 141 = .ok (.iload_n 1, 1) := by decide +kernel
theorem dMo_isJump_142 : decode cMo_isJump 142 = .ok (.ifCond .ne 45, 3) := by decide +kernel
theorem dMo_isJump_145 : decode cMo_isJump 145 = .ok (.aload_n 0, 1) := by decide +kernel
theorem dMo_isJump_146 : decode cMo_isJump 146 = .ok (.getfield 34, 3) := by decide +kernel
theorem dMo_isJump_149 : decode cMo_isJump 149 = .ok (.sipush 149, 3) := by decide +kernel
theorem dMo_isJump_152 : decode cMo_isJump 152 = .ok (.if_icmp .ne 35, 3) := by decide +kernel
theorem dMo_isJump_155 : decode cMo_isJump 155 = .ok (.aload_n 0, 1) := by decide +kernel
theorem dMo_isJump_156 : decode cMo_isJump 156 = .ok (.getfield 37, 3) := by decide +kernel
theorem dMo_isJump_159 : decode cMo_isJump 159 = .ok (.ifCond .ne 28, 3) := by decide +kernel
theorem dMo_isJump_162 : decode cMo_isJump 162 = .ok (.aload_n 0, 1) := by decide +kernel
theorem dMo_isJump_163 : decode cMo_isJump 163 = .ok (.getfield 40, 3) := by decide +kernel
theorem dMo_isJump_166 : decode cMo_isJump 166 = .ok (.ifCond .ne 21, 3) := by decide +kernel
theorem dMo_isJump_169 : decode cMo_isJump 169 = .ok (.aload_n 0, 1) := by decide +kernel
theorem dMo_isJump_170 : decode cMo_isJump 170 = .ok (.getfield 50, 3) := by decide +kernel
theorem dMo_isJump_173 : decode cMo_isJump 173 = .ok (.ifCond .ne 14, 3) := by decide +kernel
theorem dMo_isJump_176 : decode cMo_isJump 176 = .ok (.aload_n 0, 1) := by decide +kernel
theorem dMo_isJump_177 : decode cMo_isJump 177 = .ok (.getfield 47, 3) := by decide +kernel
theorem dMo_isJump_180 : decode cMo_isJump 180 = .ok (.ifCond .ne 7, 3) := by decide +kernel
theorem dMo_isJump_183 : decode cMo_isJump 183 = .ok (.iconst 1, 1) := by decide +kernel
theorem dMo_isJump_184 : decode cMo_isJump 184 = .ok (.goto 4, 3) := by decide +kernel
theorem dMo_isJump_187 : decode cMo_isJump 187 = .ok (.iconst 0, 1) := by decide +kernel
theorem dMo_isJump_188 : decode cMo_isJump 188 = .ok (.ireturn, 1) := by decide +kernel
theorem dMo_isJump_189 : decode cMo_isJump 189 = .ok (.aload_n 0, 1) := by decide +kernel
theorem dMo_isJump_190 : decode cMo_isJump 190 = .ok (.invokevirtual 61, 3) := by decide +kernel
theorem dMo_isJump_193 : decode cMo_isJump 193 = .ok (.bipush 14, 2) := by decide +kernel
theorem dMo_isJump_195 : decode cMo_isJump 195 = .ok (.if_icmp .ge 23, 3) := by decide +kernel
theorem dMo_isJump_198 : decode cMo_isJump 198 = .ok (.aload_n 0, 1) := by decide +kernel
theorem dMo_isJump_199 : decode cMo_isJump 199 = .ok (.getfield 37, 3) := by decide +kernel
theorem dMo_isJump_202 : decode cMo_isJump 202 = .ok (.bipush 11, 2) := by decide +kernel
theorem dMo_isJump_204 : decode cMo_isJump 204 = .ok (.if_icmp .ge 14, 3) := by decide +kernel
theorem dMo_isJump_207 : decode cMo_isJump 207 = .ok (.aload_n 0, 1) := by decide +kernel
theorem dMo_isJump_208 : decode cMo_isJump 208 = .ok (.invokevirtual 64, 3) := by decide +kernel
theorem dMo_isJump_211 : decode cMo_isJump 211 = .ok (.ifCond .eq 7, 3) := by decide +kernel
theorem dMo_isJump_214 : decode cMo_isJump 214 = .ok (.iconst 1, 1) := by decide +kernel
theorem dMo_isJump_215 : decode cMo_isJump 215 = .ok (.goto 4, 3) := by decide +kernel
theorem dMo_isJump_218 : decode cMo_isJump 218 = .ok (.iconst 0, 1) := by decide +kernel
theorem dMo_isJump_219 : decode cMo_isJump 219 = .ok (.ireturn, 1) := by decide +kernel
theorem dMo_isAtomic_0 : decode cMo_isAtomic 0 = .ok (.aload_n 0, 1) := by decide +kernel
theorem dMo_isAtomic_1 : decode cMo_isAtomic 1 = .ok (.getfield 50, 3) := by decide +kernel
theorem dMo_isAtomic_4 : decode cMo_isAtomic 4 = .ok (.iconst 1, 1) := by decide +kernel
theorem dMo_isAtomic_5 : decode cMo_isAtomic 5 = .ok (.if_icmp .eq 41, 3) := by decide +kernel
theorem dMo_isAtomic_8 : decode cMo_isAtomic 8 = .ok (.aload_n 0, 1) := by decide +kernel
theorem dMo_isAtomic_9 : decode cMo_isAtomic 9 = .ok (.getfield 50, 3) := by decide +kernel
theorem dMo_isAtomic_12 : decode cMo_isAtomic 12 = .ok (.bipush 65, 2) := by decide +kernel
theorem dMo_isAtomic_14 : decode cMo_isAtomic 14 = .ok (.if_icmp .eq 32, 3) := by decide +kernel
theorem dMo_isAtomic_17 : decode cMo_isAtomic 17 = .ok (.aload_n 0, 1) := by decide +kernel
theorem dMo_isAtomic_18 : decode cMo_isAtomic 18 = .ok (.getfield 50, 3) := by decide +kernel
theorem dMo_isAtomic_21 : decode cMo_isAtomic 21 = .ok (.bipush 81, 2) := by decide +kernel
theorem dMo_isAtomic_23 : decode cMo_isAtomic 23 = .ok (.if_icmp .eq 23, 3) := by decide +kernel
theorem dMo_isAtomic_26 : decode cMo_isAtomic 26 = .ok (.aload_n 0, 1) := by decide +kernel
theorem dMo_isAtomic_27 : decode cMo_isAtomic 27 = .ok (.getfield 50, 3) := by decide +kernel
theorem dMo_isAtomic_30 : decode cMo_isAtomic 30 = .ok (.sipush 161, 3) := by decide +kernel
theorem dMo_isAtomic_33 : decode cMo_isAtomic 33 = .ok (.if_icmp .eq 13, 3) := by decide +kernel
theorem dMo_isAtomic_36 : decode cMo_isAtomic 36 = .ok (.aload_n 0, 1) := by decide +kernel
theorem dMo_isAtomic_37 : decode cMo_isAtomic 37 = .ok (.getfield 50, 3) := by decide +kernel
theorem dMo_isAtomic_40 : decode cMo_isAtomic 40 = .ok (.sipush 225, 3) := by decide +kernel
theorem dMo_isAtomic_43 : decode cMo_isAtomic 43 = .ok (.if_icmp .ne 7, 3) := by decide +kernel
theorem dMo_isAtomic_46 : decode cMo_isAtomic 46 = .ok (.iconst 1, 1) := by decide +kernel
theorem dMo_isAtomic_47 : decode cMo_isAtomic 47 = .ok (.goto 4, 3) := by decide +kernel
theorem dMo_isAtomic_50 : decode cMo_isAtomic 50 = .ok (.iconst 0, 1) := by decide +kernel
theorem dMo_isAtomic_51 : decode cMo_isAtomic 51 = .ok (.istore_n 1, 1) := by decide +kernel
theorem dMo_isAtomic_52 : decode cMo_isAtomic 52 = .ok (.aload_n 0, 1) := by decide +kernel
theorem dMo_isAtomic_53 : decode cMo_isAtomic 53 = .ok (.getfield 50, 3) := by decide +kernel
theorem dMo_isAtomic_56 : decode cMo_isAtomic 56 = .ok (.ifCond .eq 41, 3) := by decide +kernel
theorem dMo_isAtomic_59 : decode cMo_isAtomic 59 = .ok (.aload_n 0, 1) := by decide +kernel
theorem dMo_isAtomic_60 : decode cMo_isAtomic 60 = .ok (.getfield 50, 3) := by decide +kernel
theorem dMo_isAtomic_63 : decode cMo_isAtomic 63 = .ok (.bipush 64, 2) := by decide +kernel
theorem dMo_isAtomic_65 : decode cMo_isAtomic 65 = .ok (.if_icmp .eq 32, 3) := by decide +kernel
theorem dMo_isAtomic_68 : decode cMo_isAtomic 68 = .ok (.aload_n 0, 1) := by decide +kernel
theorem dMo_isAtomic_69 : decode cMo_isAtomic 69 = .ok (.getfield 50, 3) := by decide +kernel
theorem dMo_isAtomic_72 : decode cMo_isAtomic 72 = .ok (.bipush 80, 2) := by decide +kernel
theorem dMo_isAtomic_74 : decode cMo_isAtomic 74 = .ok (.if_icmp .eq 23, 3) := by decide +kernel
theorem dMo_isAtomic_77 : decode cMo_isAtomic 77 = .ok (.aload_n 0, 1) := by decide +kernel
theorem dMo_isAtomic_78 : decode cMo_isAtomic 78 = .ok (.getfield 50, 3) := by decide +kernel
theorem dMo_isAtomic_81 : decode cMo_isAtomic 81 = .ok (.sipush 160, 3) := by decide +kernel
theorem dMo_isAtomic_84 : decode cMo_isAtomic 84 = .ok (.if_icmp .eq 13, 3) := by decide +kernel
theorem dMo_isAtomic_87 : decode cMo_isAtomic 87 = .ok (.aload_n 0, 1) := by decide +kernel
theorem dMo_isAtomic_88 : decode cMo_isAtomic 88 = .ok (.getfield 50, 3) := by decide +kernel
theorem dMo_isAtomic_91 : decode cMo_isAtomic 91 = .ok (.sipush 241, 3) := by decide +kernel
theorem dMo_isAtomic_94 : decode cMo_isAtomic 94 = .ok (.if_icmp .ne 7, 3) := by decide +kernel
theorem dMo_isAtomic_97 : decode cMo_isAtomic 97 = .ok (.iconst 1, 1) := by decide +kernel
theorem dMo_isAtomic_98 : decode cMo_isAtomic 98 = .ok (.goto 4, 3) := by decide +kernel
theorem dMo_isAtomic_101 : decode cMo_isAtomic 101 = .ok (.iconst 0, 1) := by decide +kernel
theorem dMo_isAtomic_102 : decode cMo_isAtomic 102 = .ok (.istore_n 2, 1) := by decide +kernel
theorem dMo_isAtomic_103 : decode cMo_isAtomic 103 = .ok (.aload_n 0, 1) := by decide +kernel
theorem dMo_isAtomic_104 : decode cMo_isAtomic 104 = .ok (.invokevirtual 67, 3) := by decide +kernel
theorem dMo_isAtomic_107 : decode cMo_isAtomic 107 = .ok (.iconst 2, 1) := by decide +kernel
theorem dMo_isAtomic_108 : decode cMo_isAtomic 108 = .ok (.if_icmp .le 42, 3) := by decide +kernel
theorem dMo_isAtomic_111 : decode cMo_isAtomic 111 = .ok (.aload_n 0, 1) := by decide +kernel
theorem dMo_isAtomic_112 : decode cMo_isAtomic 112 = .ok (.getfield 37, 3) := by decide +kernel
theorem dMo_isAtomic_115 : decode cMo_isAtomic 115 = .ok (.bipush 11, 2) := by decide +kernel
theorem dMo_isAtomic_117 : decode cMo_isAtomic 117 = .ok (.if_icmp .ge 33, 3) := by decide +kernel
theorem dMo_isAtomic_120 : decode cMo_isAtomic 120 = .ok (.iload_n 1, 1) := by decide +kernel
theorem dMo_isAtomic_121 : decode cMo_isAtomic 121 = .ok (.ifCond .eq 12, 3) := by decide +kernel
theorem dMo_isAtomic_124 : decode cMo_isAtomic 124 = .ok (.aload_n 0, 1) := by decide +kernel
theorem dMo_isAtomic_125 : decode cMo_isAtomic 125 = .ok (.getfield 40, 3) := by decide +kernel
theorem dMo_isAtomic_128 : decode cMo_isAtomic 128 = .ok (.bipush 10, 2) := by decide +kernel
theorem dMo_isAtomic_130 : decode cMo_isAtomic 130 = .ok (.if_icmp .lt 16, 3) := by decide +kernel
theorem dMo_isAtomic_133 : decode cMo_isAtomic 133 = .ok (.iload_n 2, 1) := by decide +kernel
theorem dMo_isAtomic_134 : decode cMo_isAtomic 134 = .ok (.ifCond .eq 16, 3) := by decide +kernel
theorem dMo_isAtomic_137 : decode cMo_isAtomic 137 = .ok (.aload_n 0, 1) := by decide +kernel
theorem dMo_isAtomic_138 : decode cMo_isAtomic 138 = .ok (.getfield 40, 3) := by decide +kernel
theorem dMo_isAtomic_141 : decode cMo_isAtomic 141 = .ok (.bipush 11, 2) := by decide +kernel
theorem dMo_isAtomic_143 : decode cMo_isAtomic 143 = .ok (.if_icmp .ge 7, 3) := by decide +kernel
theorem dMo_isAtomic_146 : decode cMo_isAtomic 146 = .ok (.iconst 1, 1) := by decide +kernel
theorem dMo_isAtomic_147 : decode cMo_isAtomic 147 = .ok (.goto 4, 3) := by decide +kernel
theorem dMo_isAtomic_150 : decode cMo_isAtomic 150 = .ok (.iconst 0, 1) := by decide +kernel
theorem dMo_isAtomic_151 : decode cMo_isAtomic 151 = .ok (.ireturn, 1) := by decide +kernel
theorem dMo_isInstruction_0 : decode cMo_isInstruction 0 = .ok (.aload_n 0, 1) := by decide +kernel
theorem dMo_isInstruction_1 : decode cMo_isInstruction 1 = .ok (.aload_n 1, 1) := by decide +kernel
theorem dMo_isInstruction_2 : decode cMo_isInstruction 2 = .ok (.iload_n 2, 1) := by decide +kernel
theorem dMo_isInstruction_3 : decode cMo_isInstruction 3 = .ok (.invokevirtual 70, 3) := by decide +kernel
theorem dMo_isInstruction_6 : decode cMo_isInstruction 6 = .ok (.aload_n 0, 1) := by decide +kernel
theorem dMo_isInstruction_7 : decode cMo_isInstruction 7 = .ok (.invokevirtual 57, 3) := by decide +kernel
theorem dMo_isInstruction_10 : decode cMo_isInstruction 10 = .ok (.tableswitch 201 1 7 #[52, 108, 138, 42, 47, 47, 42], 42) := by decide +kernel
theorem dMo_isInstruction_52 : decode cMo_isInstruction 52 = .ok (.aload_n 0, 1) := by decide +kernel
theorem dMo_isInstruction_53 : decode cMo_isInstruction 53 = .ok (.invokevirtual 74, 3) := by decide +kernel
theorem dMo_isInstruction_56 : decode cMo_isInstruction 56 = .ok (.ireturn, 1) := by decide +kernel
theorem dMo_isInstruction_57 : decode cMo_isInstruction 57 = .ok (.aload_n 0, 1) := by decide +kernel
theorem dMo_isInstruction_58 : decode cMo_isInstruction 58 = .ok (.invokevirtual 77, 3) := by decide +kernel
theorem dMo_isInstruction_61 : decode cMo_isInstruction 61 = .ok (.ireturn, 1) := by decide +kernel
theorem dMo_isInstruction_62 : decode cMo_isInstruction 62 = .ok (.aload_n 0, 1) := by decide +kernel
theorem dMo_isInstruction_63 : decode cMo_isInstruction 63 = .ok (.getfield 50, 3) := by decide +kernel
theorem dMo_isInstruction_66 : decode cMo_isInstruction 66 = .ok (.ifCond .ne 50, 3) := by decide +kernel
theorem dMo_isInstruction_69 : decode cMo_isInstruction 69 = .ok (.aload_n 0, 1) := by decide +kernel
theorem dMo_isInstruction_70 : decode cMo_isInstruction 70 = .ok (.getfield 37, 3) := by decide +kernel
theorem dMo_isInstruction_73 : decode cMo_isInstruction 73 = .ok (.bipush 10, 2) := by decide +kernel
theorem dMo_isInstruction_75 : decode cMo_isInstruction 75 = .ok (.if_icmp .ge 41, 3) := by decide +kernel
theorem dMo_isInstruction_78 : decode cMo_isInstruction 78 = .ok (.aload_n 0, 1) := by decide +kernel
theorem dMo_isInstruction_79 : decode cMo_isInstruction 79 = .ok (.getfield 40, 3) := by decide +kernel
theorem dMo_isInstruction_82 : decode cMo_isInstruction 82 = .ok (.bipush 11, 2) := by decide +kernel
theorem dMo_isInstruction_84 : decode cMo_isInstruction 84 = .ok (.if_icmp .ge 32, 3) := by decide +kernel
theorem dMo_isInstruction_87 : decode cMo_isInstruction 87 = .ok (.aload_n 0, 1) := by decide +kernel
theorem dMo_isInstruction_88 : decode cMo_isInstruction 88 = .ok (.invokevirtual 80, 3) := by decide +kernel
theorem dMo_isInstruction_91 : decode cMo_isInstruction 91 = .ok (.iconst 3, 1) := by decide +kernel
theorem dMo_isInstruction_92 : decode cMo_isInstruction 92 = .ok (.if_icmp .eq 20, 3) := by decide +kernel
theorem dMo_isInstruction_95 : decode cMo_isInstruction 95 = .ok (.aload_n 0, 1) := by decide +kernel
theorem dMo_isInstruction_96 : decode cMo_isInstruction 96 = .ok (.invokevirtual 80, 3) := by decide +kernel
theorem dMo_isInstruction_99 : decode cMo_isInstruction 99 = .ok (.iconst 4, 1) := by decide +kernel
theorem dMo_isInstruction_100 : decode cMo_isInstruction 100 = .ok (.if_icmp .ne 16, 3) := by decide +kernel
theorem dMo_isInstruction_103 : decode cMo_isInstruction 103 = .ok (.aload_n 0, 1) := by decide +kernel
theorem dMo_isInstruction_104 : decode cMo_isInstruction 104 = .ok (.invokevirtual 67, 3) := by decide +kernel
theorem dMo_isInstruction_107 : decode cMo_isInstruction 107 = .ok (.bipush 8, 2) := by decide +kernel
theorem dMo_isInstruction_109 : decode cMo_isInstruction 109 = .ok (.if_icmp .ge 7, 3) := by decide +kernel
theorem dMo_isInstruction_112 : decode cMo_isInstruction 112 = .ok (.iconst 1, 1) := by decide +kernel
theorem dMo_isInstruction_113 : decode cMo_isInstruction 113 = .ok (.goto 4, 3) := by decide +kernel
theorem dMo_isInstruction_116 : decode cMo_isInstruction 116 = .ok (.iconst 0, 1) := by decide +kernel
theorem dMo_isInstruction_117 : decode cMo_isInstruction 117 = .ok (.ireturn, 1) := by decide +kernel
theorem dMo_isInstruction_118 : decode cMo_isInstruction 118 = .ok (.aload_n 0, 1) := by decide +kernel
theorem dMo_isInstruction_119 : decode cMo_isInstruction 119 = .ok (.getfield 40, 3) := by decide +kernel
theorem dMo_isInstruction_122 : decode cMo_isInstruction 122 = .ok (.ifCond .ne 24, 3) := by decide +kernel
theorem dMo_isInstruction_125 : decode cMo_isInstruction 125 = .ok (.aload_n 0, 1) := by decide +kernel
theorem dMo_isInstruction_126 : decode cMo_isInstruction 126 = .ok (.getfield 37, 3) := by decide +kernel
theorem dMo_isInstruction_129 : decode cMo_isInstruction 129 = .ok (.bipush 11, 2) := by decide +kernel
theorem dMo_isInstruction_131 : decode cMo_isInstruction 131 = .ok (.if_icmp .ge 15, 3) := by decide +kernel
theorem dMo_isInstruction_134 : decode cMo_isInstruction 134 = .ok (.aload_n 0, 1) := by decide +kernel
theorem dMo_isInstruction_135 : decode cMo_isInstruction 135 = .ok (.invokevirtual 80, 3) := by decide +kernel
theorem dMo_isInstruction_138 : decode cMo_isInstruction 138 = .ok (.iconst 3, 1) := by decide +kernel
theorem dMo_isInstruction_139 : decode cMo_isInstruction 139 = .ok (.if_icmp .ne 7, 3) := by decide +kernel
theorem dMo_isInstruction_142 : decode cMo_isInstruction 142 = .ok (.iconst 1, 1) := by decide +kernel
theorem dMo_isInstruction_143 : decode cMo_isInstruction 143 = .ok (.goto 4, 3) := by decide +kernel
theorem dMo_isInstruction_146 : decode cMo_isInstruction 146 = .ok (.iconst 0, 1) := by decide +kernel
theorem dMo_isInstruction_147 : decode cMo_isInstruction 147 = .ok (.ireturn, 1) := by decide +kernel
theorem dMo_isInstruction_148 : decode cMo_isInstruction 148 = .ok (.aload_n 0, 1) := by decide +kernel
theorem dMo_isInstruction_149 : decode cMo_isInstruction 149 = .ok (.invokevirtual 80, 3) := by decide +kernel
theorem dMo_isInstruction_152 : decode cMo_isInstruction 152 = .ok (.iconst 3, 1) := by decide +kernel
theorem dMo_isInstruction_153 : decode cMo_isInstruction 153 = .ok (.if_icmp .ne 36, 3) := by decide +kernel
theorem dMo_isInstruction_156 : decode cMo_isInstruction 156 = .ok (.aload_n 0, 1) := by decide +kernel
theorem dMo_isInstruction_157 : decode cMo_isInstruction 157 = .ok (.getfield 50, 3) := by decide +kernel
theorem dMo_isInstruction_160 : decode cMo_isInstruction 160 = .ok (.ifCond .ne 25, 3) := by decide +kernel
theorem dMo_isInstruction_163 : decode cMo_isInstruction 163 = .ok (.aload_n 0, 1) := by decide +kernel
theorem dMo_isInstruction_164 : decode cMo_isInstruction 164 = .ok (.getfield 37, 3) := by decide +kernel
theorem dMo_isInstruction_167 : decode cMo_isInstruction 167 = .ok (.bipush 11, 2) := by decide +kernel
theorem dMo_isInstruction_169 : decode cMo_isInstruction 169 = .ok (.if_icmp .ge 16, 3) := by decide +kernel
theorem dMo_isInstruction_172 : decode cMo_isInstruction 172 = .ok (.aload_n 0, 1) := by decide +kernel
theorem dMo_isInstruction_173 : decode cMo_isInstruction 173 = .ok (.getfield 40, 3) := by decide +kernel
theorem dMo_isInstruction_176 : decode cMo_isInstruction 176 = .ok (.bipush 11, 2) := by decide +kernel
theorem dMo_isInstruction_178 : decode cMo_isInstruction 178 = .ok (.if_icmp .ge 7, 3) := by decide +kernel
theorem dMo_isInstruction_181 : decode cMo_isInstruction 181 = .ok (.iconst 1, 1) := by decide +kernel
theorem dMo_isInstruction_182 : decode cMo_isInstruction 182 = .ok (.goto 28, 3) := by decide +kernel
theorem dMo_isInstruction_185 : decode cMo_isInstruction 185 = .ok (.iconst 0, 1) := by decide +kernel
theorem dMo_isInstruction_186 : decode cMo_isInstruction 186 = .ok (.goto 24, 3) := by decide +kernel
theorem dMo_isInstruction_189 : decode cMo_isInstruction 189 = .ok (.aload_n 0, 1) := by decide +kernel
theorem dMo_isInstruction_190 : decode cMo_isInstruction 190 = .ok (.invokevirtual 80, 3) := by decide +kernel
theorem dMo_isInstruction_193 : decode cMo_isInstruction 193 = .ok (.bipush 6, 2) := by decide +kernel
theorem dMo_isInstruction_195 : decode cMo_isInstruction 195 = .ok (.if_icmp .ne 14, 3) := by decide +kernel
theorem dMo_isInstruction_198 : decode cMo_isInstruction 198 = .ok (.aload_n 0, 1) := by decide +kernel
theorem dMo_isInstruction_199 : decode cMo_isInstruction 199 = .ok (.invokevirtual 83, 3) := by decide +kernel
theorem dMo_isInstruction_202 : decode cMo_isInstruction 202 = .ok (.ifCond .eq 7, 3) := by decide +kernel
theorem dMo_isInstruction_205 : decode cMo_isInstruction 205 = .ok (.iconst 1, 1) := by decide +kernel
theorem dMo_isInstruction_206 : decode cMo_isInstruction 206 = .ok (.goto 4, 3) := by decide +kernel
theorem dMo_isInstruction_209 : decode cMo_isInstruction 209 = .ok (.iconst 0, 1) := by decide +kernel
theorem dMo_isInstruction_210 : decode cMo_isInstruction 210 = .ok (.ireturn, 1) := by decide +kernel
theorem dMo_isInstruction_211 : decode cMo_isInstruction 211 = .ok (.aload_n 0, 1) := by decide +kernel
theorem dMo_isInstruction_212 : decode cMo_isInstruction 212 = .ok (.invokevirtual 86, 3) := by decide +kernel
theorem dMo_isInstruction_215 : decode cMo_isInstruction 215 = .ok (.ifCond .eq 38, 3) := by decide +kernel
theorem dMo_isInstruction_218 : decode cMo_isInstruction 218 = .ok (.aload_n 0, 1) := by decide +kernel
theorem dMo_isInstruction_219 : decode cMo_isInstruction 219 = .ok (.getfield 37, 3) := by decide +kernel
theorem dMo_isInstruction_222 : decode cMo_isInstruction 222 = .ok (.bipush 10, 2) := by decide +kernel
theorem dMo_isInstruction_224 : decode cMo_isInstruction 224 = .ok (.if_icmp .ge 29, 3) := by decide +kernel
theorem dMo_isInstruction_227 : decode cMo_isInstruction 227 = .ok (.aload_n 0, 1) := by decide +kernel
theorem dMo_isInstruction_228 : decode cMo_isInstruction 228 = .ok (.getfield 40, 3) := by decide +kernel
theorem dMo_isInstruction_231 : decode cMo_isInstruction 231 = .ok (.iconst 2, 1) := by decide +kernel
theorem dMo_isInstruction_232 : decode cMo_isInstruction 232 = .ok (.if_icmp .ge 21, 3) := by decide +kernel
theorem dMo_isInstruction_235 : decode cMo_isInstruction 235 = .ok (.aload_n 0, 1) := by decide +kernel
theorem dMo_isInstruction_236 : decode cMo_isInstruction 236 = .ok (.getfield 47, 3) := by decide +kernel
theorem dMo_isInstruction_239 : decode cMo_isInstruction 239 = .ok (.ifCond .ne 14, 3) := by decide +kernel
theorem dMo_isInstruction_242 : decode cMo_isInstruction 242 = .ok (.iload_n 2, 1) := by decide +kernel
theorem dMo_isInstruction_243 : decode cMo_isInstruction 243 = .ok (.iconst 1, 1) := by decide +kernel
theorem dMo_isInstruction_244 : decode cMo_isInstruction 244 = .ok (.iadd, 1) := by decide +kernel
theorem dMo_isInstruction_245 : decode cMo_isInstruction 245 = .ok (.iload_n 3, 1) := by decide +kernel
theorem dMo_isInstruction_246 : decode cMo_isInstruction 246 = .ok (.if_icmp .ge 7, 3) := by decide +kernel
theorem dMo_isInstruction_249 : decode cMo_isInstruction 249 = .ok (.iconst 1, 1) := by decide +kernel
theorem dMo_isInstruction_250 : decode cMo_isInstruction 250 = .ok (.goto 4, 3) := by decide +kernel
theorem dMo_isInstruction_253 : decode cMo_isInstruction 253 = .ok (.iconst 0, 1) := by decide +kernel
theorem dMo_isInstruction_254 : decode cMo_isInstruction 254 = .ok (.istore 4, 2) := by decide +kernel
theorem dMo_isInstruction_256 : decode cMo_isInstruction 256 = .ok (.iload 4, 2) := by decide +kernel
theorem dMo_isInstruction_258 : decode cMo_isInstruction 258 = .ok (.ifCond .eq 22, 3) := by decide +kernel
theorem dMo_isInstruction_261 : decode cMo_isInstruction 261 = .ok (.aload_n 1, 1) := by decide +kernel
theorem dMo_isInstruction_262 : decode cMo_isInstruction 262 = .ok (.bipush 8, 2) := by decide +kernel
theorem dMo_isInstruction_264 : decode cMo_isInstruction 264 = .ok (.iload_n 2, 1) := by decide +kernel
theorem dMo_isInstruction_265 : decode cMo_isInstruction 265 = .ok (.imul, 1) := by decide +kernel
theorem dMo_isInstruction_266 : decode cMo_isInstruction 266 = .ok (.bipush 8, 2) := by decide +kernel
theorem dMo_isInstruction_268 : decode cMo_isInstruction 268 = .ok (.iadd, 1) := by decide +kernel
theorem dMo_isInstruction_269 : decode cMo_isInstruction 269 = .ok (.iconst 4, 1) := by decide +kernel
theorem dMo_isInstruction_270 : decode cMo_isInstruction 270 = .ok (.invokestatic 43, 3) := by decide +kernel
theorem dMo_isInstruction_273 : decode cMo_isInstruction 273 = .ok (.ifCond .ne 7, 3) := by decide +kernel
theorem dMo_isInstruction_276 : decode cMo_isInstruction 276 = .ok (.iconst 1, 1) := by decide +kernel
theorem dMo_isInstruction_277 : decode cMo_isInstruction 277 = .ok (.goto 4, 3) := by decide +kernel
theorem dMo_isInstruction_280 : decode cMo_isInstruction 280 = .ok (.iconst 0, 1) := by decide +kernel
theorem dMo_isInstruction_281 : decode cMo_isInstruction 281 = .ok (.istore 5, 2) := by decide +kernel
theorem dMo_isInstruction_283 : decode cMo_isInstruction 283 = .ok (.iload 5, 2) := by decide +kernel
theorem dMo_isInstruction_285 : decode cMo_isInstruction 285 = .ok (.ifCond .eq 36, 3) := by decide +kernel
theorem dMo_isInstruction_288 : decode cMo_isInstruction 288 = .ok (.aload_n 0, 1) := by decide +kernel
theorem dMo_isInstruction_289 : decode cMo_isInstruction 289 = .ok (.getfield 40, 3) := by decide +kernel
theorem dMo_isInstruction_292 : decode cMo_isInstruction 292 = .ok (.ifCond .eq 25, 3) := by decide +kernel
theorem dMo_isInstruction_295 : decode cMo_isInstruction 295 = .ok (.aload_n 0, 1) := by decide +kernel
theorem dMo_isInstruction_296 : decode cMo_isInstruction 296 = .ok (.getfield 50, 3) := by decide +kernel
theorem dMo_isInstruction_299 : decode cMo_isInstruction 299 = .ok (.ifCond .lt 22, 3) := by decide +kernel
theorem dMo_isInstruction_302 : decode cMo_isInstruction 302 = .ok (.aload_n 1, 1) := by decide +kernel
theorem dMo_isInstruction_303 : decode cMo_isInstruction 303 = .ok (.bipush 8, 2) := by decide +kernel
theorem dMo_isInstruction_305 : decode cMo_isInstruction 305 = .ok (.iload_n 2, 1) := by decide +kernel
theorem dMo_isInstruction_306 : decode cMo_isInstruction 306 = .ok (.imul, 1) := by decide +kernel
theorem dMo_isInstruction_307 : decode cMo_isInstruction 307 = .ok (.bipush 12, 2) := by decide +kernel
theorem dMo_isInstruction_309 : decode cMo_isInstruction 309 = .ok (.iadd, 1) := by decide +kernel
theorem dMo_isInstruction_310 : decode cMo_isInstruction 310 = .ok (.iconst 4, 1) := by decide +kernel
theorem dMo_isInstruction_311 : decode cMo_isInstruction 311 = .ok (.invokestatic 43, 3) := by decide +kernel
theorem dMo_isInstruction_314 : decode cMo_isInstruction 314 = .ok (.ifCond .ne 7, 3) := by decide +kernel
theorem dMo_isInstruction_317 : decode cMo_isInstruction 317 = .ok (.iconst 1, 1) := by decide +kernel
theorem dMo_isInstruction_318 : decode cMo_isInstruction 318 = .ok (.goto 4, 3) := by decide +kernel
theorem dMo_isInstruction_321 : decode cMo_isInstruction 321 = .ok (.iconst 0, 1) := by decide +kernel
theorem dMo_isInstruction_322 : decode cMo_isInstruction 322 = .ok (.ireturn, 1) := by decide +kernel
theorem dMo_wrongPlace_0 : decode cMo_wrongPlace 0 = .ok (.iconst 0, 1) := by decide +kernel
theorem dMo_wrongPlace_1 : decode cMo_wrongPlace 1 = .ok (.istore_n 2, 1) := by decide +kernel
theorem dMo_wrongPlace_2 : decode cMo_wrongPlace 2 = .ok (.iload_n 2, 1) := by decide +kernel
theorem dMo_wrongPlace_3 : decode cMo_wrongPlace 3 = .ok (.iload_n 1, 1) := by decide +kernel
theorem dMo_wrongPlace_4 : decode cMo_wrongPlace 4 = .ok (.if_icmp .ge 38, 3) := by decide +kernel
theorem dMo_wrongPlace_7 : decode cMo_wrongPlace 7 = .ok (.aload_n 0, 1) := by decide +kernel
theorem dMo_wrongPlace_8 : decode cMo_wrongPlace 8 = .ok (.aload_n 0, 1) := by decide +kernel
theorem dMo_wrongPlace_9 : decode cMo_wrongPlace 9 = .ok (.getfield 8, 3) := by decide +kernel
theorem dMo_wrongPlace_12 : decode cMo_wrongPlace 12 = .ok (.iload_n 2, 1) := by decide +kernel
theorem dMo_wrongPlace_13 : decode cMo_wrongPlace 13 = .ok (.iload_n 1, 1) := by decide +kernel
theorem dMo_wrongPlace_14 : decode cMo_wrongPlace 14 = .ok (.invokevirtual 89, 3) := by decide +kernel
theorem dMo_wrongPlace_17 : decode cMo_wrongPlace 17 = .ok (.ifCond .ne 5, 3) := by decide +kernel
theorem dMo_wrongPlace_20 : decode cMo_wrongPlace 20 = .ok (.iload_n 2, 1) := by decide +kernel
theorem dMo_wrongPlace_21 : decode cMo_wrongPlace 21 = .ok (.ireturn, 1) := by decide +kernel
theorem dMo_wrongPlace_22 : decode cMo_wrongPlace 22 = .ok (.aload_n 0, 1) := by decide +kernel
theorem dMo_wrongPlace_23 : decode cMo_wrongPlace 23 = .ok (.invokevirtual 86, 3) := by decide +kernel
theorem dMo_wrongPlace_26 : decode cMo_wrongPlace 26 = .ok (.ifCond .eq 9, 3) := by decide +kernel
theorem dMo_wrongPlace_29 : decode cMo_wrongPlace 29 = .ok (.iload_n 2, 1) := by decide +kernel
theorem dMo_wrongPlace_30 : decode cMo_wrongPlace 30 = .ok (.iconst 2, 1) := by decide +kernel
theorem dMo_wrongPlace_31 : decode cMo_wrongPlace 31 = .ok (.iadd, 1) := by decide +kernel
theorem dMo_wrongPlace_32 : decode cMo_wrongPlace 32 = .ok (.goto 6, 3) := by decide +kernel
theorem dMo_wrongPlace_35 : decode cMo_wrongPlace 35 = .ok (.iload_n 2, 1) := by decide +kernel
theorem dMo_wrongPlace_36 : decode cMo_wrongPlace 36 = .ok (.iconst 1, 1) := by decide +kernel
theorem dMo_wrongPlace_37 : decode cMo_wrongPlace 37 = .ok (.iadd, 1) := by decide +kernel
theorem dMo_wrongPlace_38 : decode cMo_wrongPlace 38 = .ok (.istore_n 2, 1) := by decide +kernel
theorem dMo_wrongPlace_39 : decode cMo_wrongPlace 39 = .ok (.goto (-37), 3) := by decide +kernel
theorem dMo_wrongPlace_42 : decode cMo_wrongPlace 42 = .ok (.aload_n 0, 1) := by decide +kernel
theorem dMo_wrongPlace_43 : decode cMo_wrongPlace 43 = .ok (.getfield 31, 3) := by decide +kernel
theorem dMo_wrongPlace_46 : decode cMo_wrongPlace 46 = .ok (.bipush 8, 2) := by decide +kernel
theorem dMo_wrongPlace_48 : decode cMo_wrongPlace 48 = .ok (.irem, 1) := by decide +kernel
theorem dMo_wrongPlace_49 : decode cMo_wrongPlace 49 = .ok (.ifCond .ne 7, 3) := by decide +kernel
theorem dMo_wrongPlace_52 : decode cMo_wrongPlace 52 = .ok (.iload_n 1, 1) := by decide +kernel
theorem dMo_wrongPlace_53 : decode cMo_wrongPlace 53 = .ok (.ifCond .ne 7, 3) := by decide +kernel
theorem dMo_wrongPlace_56 : decode cMo_wrongPlace 56 = .ok (.iload_n 1, 1) := by decide +kernel
theorem dMo_wrongPlace_57 : decode cMo_wrongPlace 57 = .ok (.goto 4, 3) := by decide +kernel
theorem dMo_wrongPlace_60 : decode cMo_wrongPlace 60 = .ok (.iconst (-1), 1) := by decide +kernel
theorem dMo_wrongPlace_61 : decode cMo_wrongPlace 61 = .ok (.ireturn, 1) := by decide +kernel
