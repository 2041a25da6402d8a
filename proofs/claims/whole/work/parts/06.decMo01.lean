theorem dMo_size_0 : decode cMo_size 0 = .ok (.aload_n 0, 1) := by decide +kernel
theorem dMo_size_1 : decode cMo_size 1 = .ok (.getfield 34, 3) := by decide +kernel
theorem dMo_size_4 : decode cMo_size 4 = .ok (.iconst 3, 1) := by decide +kernel
theorem dMo_size_5 : decode cMo_size 5 = .ok (.ishr, 1) := by decide +kernel
theorem dMo_size_6 : decode cMo_size 6 = .ok (.iconst 3, 1) := by decide +kernel
theorem dMo_size_7 : decode cMo_size 7 = .ok (.iand, 1) := by decide +kernel
theorem dMo_size_8 : decode cMo_size 8 = .ok (.istore_n 1, 1) := by decide +kernel
theorem dMo_size_9 : decode cMo_size 9 = .ok (.iload_n 1, 1) := by decide +kernel
theorem dMo_size_10 : decode cMo_size 10 = .ok (.ifCond .ne 7, 3) := by decide +kernel
theorem dMo_size_13 : decode cMo_size 13 = .ok (.iconst 4, 1) := by decide +kernel
theorem dMo_size_14 : decode cMo_size 14 = .ok (.goto 23, 3) := by decide +kernel
theorem dMo_size_17 : decode cMo_size 17 = .ok (.iload_n 1, 1) := by decide +kernel
theorem dMo_size_18 : decode cMo_size 18 = .ok (.iconst 1, 1) := by decide +kernel
theorem dMo_size_19 : decode cMo_size 19 = .ok (.if_icmp .ne 7, 3) := by decide +kernel
theorem dMo_size_22 : decode cMo_size 22 = .ok (.iconst 2, 1) := by decide +kernel
theorem dMo_size_23 : decode cMo_size 23 = .ok (.goto 14, 3) := by decide +kernel
theorem dMo_size_26 : decode cMo_size 26 = .ok (.iload_n 1, 1) := by decide +kernel
theorem dMo_size_27 : decode cMo_size 27 = .ok (.iconst 2, 1) := by decide +kernel
theorem dMo_size_28 : decode cMo_size 28 = .ok (.if_icmp .ne 7, 3) := by decide +kernel
theorem dMo_size_31 : decode cMo_size 31 = .ok (.iconst 1, 1) := by decide +kernel
theorem dMo_size_32 : decode cMo_size 32 = .ok (.goto 5, 3) := by decide +kernel
theorem dMo_size_35 : decode cMo_size 35 = .ok (.bipush 8, 2) := by decide +kernel
theorem dMo_size_37 : decode cMo_size 37 = .ok (.ireturn, 1) := by decide +kernel
theorem dMo_mode_0 : decode cMo_mode 0 = .ok (.aload_n 0, 1) := by decide +kernel
theorem dMo_mode_1 : decode cMo_mode 1 = .ok (.getfield 34, 3) := by decide +kernel
theorem dMo_mode_4 : decode cMo_mode 4 = .ok (.iconst 5, 1) := by decide +kernel
theorem dMo_mode_5 : decode cMo_mode 5 = .ok (.ishr, 1) := by decide +kernel
theorem dMo_mode_6 : decode cMo_mode 6 = .ok (.ireturn, 1) := by decide +kernel
theorem dMo_isWide_0 : decode cMo_isWide 0 = .ok (.aload_n 0, 1) := by decide +kernel
theorem dMo_isWide_1 : decode cMo_isWide 1 = .ok (.getfield 34, 3) := by decide +kernel
theorem dMo_isWide_4 : decode cMo_isWide 4 = .ok (.bipush 24, 2) := by decide +kernel
theorem dMo_isWide_6 : decode cMo_isWide 6 = .ok (.if_icmp .ne 7, 3) := by decide +kernel
theorem dMo_isWide_9 : decode cMo_isWide 9 = .ok (.iconst 1, 1) := by decide +kernel
theorem dMo_isWide_10 : decode cMo_isWide 10 = .ok (.goto 4, 3) := by decide +kernel
theorem dMo_isWide_13 : decode cMo_isWide 13 = .ok (.iconst 0, 1) := by decide +kernel
theorem dMo_isWide_14 : decode cMo_isWide 14 = .ok (.ireturn, 1) := by decide +kernel
theorem dMo_hasSource_0 : decode cMo_hasSource 0 = .ok (.aload_n 0, 1) := by decide +kernel
theorem dMo_hasSource_1 : decode cMo_hasSource 1 = .ok (.invokevirtual 53, 3) := by decide +kernel
theorem dMo_hasSource_4 : decode cMo_hasSource 4 = .ok (.ifCond .eq 27, 3) := by decide +kernel
theorem dMo_hasSource_7 : decode cMo_hasSource 7 = .ok (.aload_n 0, 1) := by decide +kernel
theorem dMo_hasSource_8 : decode cMo_hasSource 8 = .ok (.getfield 40, 3) := by decide +kernel
theorem dMo_hasSource_11 : decode cMo_hasSource 11 = .ok (.bipush 11, 2) := by decide +kernel
theorem dMo_hasSource_13 : decode cMo_hasSource 13 = .ok (.if_icmp .ge 14, 3) := by decide +kernel
theorem dMo_hasSource_16 : decode cMo_hasSource 16 = .ok (.aload_n 0, 1) := by decide +kernel
theorem dMo_hasSource_17 : decode cMo_hasSource 17 = .ok (.getfield 50, 3) := by decide +kernel
theorem dMo_hasSource_20 : decode cMo_hasSource 20 = .ok (.ifCond .ne 7, 3) := by decide +kernel
theorem dMo_hasSource_23 : decode cMo_hasSource 23 = .ok (.iconst 1, 1) := by decide +kernel
theorem dMo_hasSource_24 : decode cMo_hasSource 24 = .ok (.goto 19, 3) := by decide +kernel
theorem dMo_hasSource_27 : decode cMo_hasSource 27 = .ok (.iconst 0, 1) := by decide +kernel
theorem dMo_hasSource_28 : decode cMo_hasSource 28 = .ok (.goto 15, 3) := by decide +kernel
theorem dMo_hasSource_31 : decode cMo_hasSource 31 = .ok (.aload_n 0, 1) := by decide +kernel
theorem dMo_hasSource_32 : decode cMo_hasSource 32 = .ok (.getfield 40, 3) := by decide +kernel
theorem dMo_hasSource_35 : decode cMo_hasSource 35 = .ok (.ifCond .ne 7, 3) := by decide +kernel
theorem dMo_hasSource_38 : decode cMo_hasSource 38 = .ok (.iconst 1, 1) := by decide +kernel
theorem dMo_hasSource_39 : decode cMo_hasSource 39 = .ok (.goto 4, 3) := by decide +kernel
theorem dMo_hasSource_42 : decode cMo_hasSource 42 = .ok (.iconst 0, 1) := by decide +kernel
theorem dMo_hasSource_43 : decode cMo_hasSource 43 = .ok (.ireturn, 1) := by decide +kernel
theorem dMo_isArithmetic_0 : decode cMo_isArithmetic 0 = .ok (.aload_n 0, 1) := by decide +kernel
theorem dMo_isArithmetic_1 : decode cMo_isArithmetic 1 = .ok (.invokevirtual 57, 3) := by decide +kernel
theorem dMo_isArithmetic_4 : decode cMo_isArithmetic 4 = .ok (.bipush 7, 2) := by decide +kernel
theorem dMo_isArithmetic_6 : decode cMo_isArithmetic 6 = .ok (.if_icmp .ne 7, 3) := by decide +kernel
theorem dMo_isArithmetic_9 : decode cMo_isArithmetic 9 = .ok (.iconst 1, 1) := by decide +kernel
theorem dMo_isArithmetic_10 : decode cMo_isArithmetic 10 = .ok (.goto 4, 3) := by decide +kernel
theorem dMo_isArithmetic_13 : decode cMo_isArithmetic 13 = .ok (.iconst 0, 1) := by decide +kernel
theorem dMo_isArithmetic_14 : decode cMo_isArithmetic 14 = .ok (.istore_n 1, 1) := by decide +kernel
theorem dMo_isArithmetic_15 : decode cMo_isArithmetic 15 = .ok (.aload_n 0, 1) := by decide +kernel
theorem dMo_isArithmetic_16 : decode cMo_isArithmetic 16 = .ok (.getfield 37, 3) := by decide +kernel
theorem dMo_isArithmetic_19 : decode cMo_isArithmetic 19 = .ok (.bipush 9, 2) := by decide +kernel
theorem dMo_isArithmetic_21 : decode cMo_isArithmetic 21 = .ok (.if_icmp .le 5, 3) := by decide +kernel
theorem dMo_isArithmetic_24 : decode cMo_isArithmetic 24 = .ok (.iconst 0, 1) := by decide +kernel
theorem dMo_isArithmetic_25 : decode cMo_isArithmetic 25 = .ok (.ireturn, 1) := by decide +kernel
theorem dMo_isArithmetic_26 : decode cMo_isArithmetic 26 = .ok (.aload_n 0, 1) := by decide +kernel
theorem dMo_isArithmetic_27 : decode cMo_isArithmetic 27 = .ok (.getfield 40, 3) := by decide +kernel
theorem dMo_isArithmetic_30 : decode cMo_isArithmetic 30 = .ok (.ifCond .ne 41, 3) := by decide +kernel
theorem dMo_isArithmetic_33 : decode cMo_isArithmetic 33 = .ok (.aload_n 0, 1) := by decide +kernel
theorem dMo_isArithmetic_34 : decode cMo_isArithmetic 34 = .ok (.getfield 47, 3) := by decide +kernel
theorem dMo_isArithmetic_37 : decode cMo_isArithmetic 37 = .ok (.ifCond .ne 34, 3) := by decide +kernel
theorem dMo_isArithmetic_40 : decode cMo_isArithmetic 40 = .ok (.aload_n 0, 1) := by decide +kernel
theorem dMo_isArithmetic_41 : decode cMo_isArithmetic 41 = .ok (.getfield 50, 3) := by decide +kernel
theorem dMo_isArithmetic_44 : decode cMo_isArithmetic 44 = .ok (.bipush 16, 2) := by decide +kernel
theorem dMo_isArithmetic_46 : decode cMo_isArithmetic 46 = .ok (.if_icmp .eq 21, 3) := by decide +kernel
theorem dMo_isArithmetic_49 : decode cMo_isArithmetic 49 = .ok (.aload_n 0, 1) := by decide +kernel
theorem dMo_isArithmetic_50 : decode cMo_isArithmetic 50 = .ok (.getfield 50, 3) := by decide +kernel
theorem dMo_isArithmetic_53 : decode cMo_isArithmetic 53 = .ok (.bipush 32, 2) := by decide +kernel
theorem dMo_isArithmetic_55 : decode cMo_isArithmetic 55 = .ok (.if_icmp .eq 12, 3) := by decide +kernel
theorem dMo_isArithmetic_58 : decode cMo_isArithmetic 58 = .ok (.aload_n 0, 1) := by decide +kernel
theorem dMo_isArithmetic_59 : decode cMo_isArithmetic 59 = .ok (.getfield 50, 3) := by decide +kernel
theorem dMo_isArithmetic_62 : decode cMo_isArithmetic 62 = .ok (.bipush 64, 2) := by decide +kernel
theorem dMo_isArithmetic_64 : decode cMo_isArithmetic 64 = .ok (.if_icmp .ne 7, 3) := by decide +kernel
theorem dMo_isArithmetic_67 : decode cMo_isArithmetic 67 = .ok (.iconst 1, 1) := by decide +kernel
theorem dMo_isArithmetic_68 : decode cMo_isArithmetic 68 = .ok (.goto 4, 3) := by decide +kernel
theorem dMo_isArithmetic_71 : decode cMo_isArithmetic 71 = .ok (.iconst 0, 1) := by decide +kernel
theorem dMo_isArithmetic_72 : decode cMo_isArithmetic 72 = .ok (.istore_n 2, 1) := by decide +kernel
theorem dMo_isArithmetic_73 : decode cMo_isArithmetic 73 = .ok (.aload_n 0, 1) := by decide +kernel
theorem dMo_isArithmetic_74 : decode cMo_isArithmetic 74 = .ok (.invokevirtual 61, 3) := by decide +kernel
theorem dMo_isArithmetic_77 : decode cMo_isArithmetic 77 = .ok (.tableswitch 200 3 13 #[114, 200, 200, 200, 200, 59, 114, 200, 142, 200, 93], 59) := by decide +kernel
theorem dMo_isArithmetic_136 : decode cMo_isArithmetic 136 = .ok (.aload_n 0, 1) := by decide +kernel
theorem dMo_isArithmetic_137 : decode cMo_isArithmetic 137 = .ok (.invokevirtual 53, 3) := by decide +kernel
theorem dMo_isArithmetic_140 : decode cMo_isArithmetic 140 = .ok (.ifCond .ne 28, 3) := by decide +kernel
theorem dMo_isArithmetic_143 : decode cMo_isArithmetic 143 = .ok (.aload_n 0, 1) := by decide +kernel
theorem dMo_isArithmetic_144 : decode cMo_isArithmetic 144 = .ok (.getfield 50, 3) := by decide +kernel
theorem dMo_isArithmetic_147 : decode cMo_isArithmetic 147 = .ok (.ifCond .ne 21, 3) := by decide +kernel
theorem dMo_isArithmetic_150 : decode cMo_isArithmetic 150 = .ok (.aload_n 0, 1) := by decide +kernel
theorem dMo_isArithmetic_151 : decode cMo_isArithmetic 151 = .ok (.getfield 40, 3) := by decide +kernel
theorem dMo_isArithmetic_154 : decode cMo_isArithmetic 154 = .ok (.ifCond .ne 14, 3) := by decide +kernel
theorem dMo_isArithmetic_157 : decode cMo_isArithmetic 157 = .ok (.aload_n 0, 1) := by decide +kernel
theorem dMo_isArithmetic_158 : decode cMo_isArithmetic 158 = .ok (.getfield 47, 3) := by decide +kernel
theorem dMo_isArithmetic_161 : decode cMo_isArithmetic 161 = .ok (.ifCond .ne 7, 3) := by decide +kernel
theorem dMo_isArithmetic_164 : decode cMo_isArithmetic 164 = .ok (.iconst 1, 1) := by decide +kernel
theorem dMo_isArithmetic_165 : decode cMo_isArithmetic 165 = .ok (.goto 4, 3) := by decide +kernel
theorem dMo_isArithmetic_168 : decode cMo_isArithmetic 168 = .ok (.iconst 0, 1) := by decide +kernel
theorem dMo_isArithmetic_169 : decode cMo_isArithmetic 169 = .ok (.ireturn, 1) := by decide +kernel
theorem dMo_isArithmetic_170 : decode cMo_isArithmetic 170 = .ok (.iload_n 2, 1) := by decide +kernel
theorem dMo_isArithmetic_171 : decode cMo_isArithmetic 171 = .ok (.ifCond .eq 18, 3) := by decide +kernel
theorem dMo_isArithmetic_174 : decode cMo_isArithmetic 174 = .ok (.iload_n 1, 1) := by decide +kernel
theorem dMo_isArithmetic_175 : decode cMo_isArithmetic 175 = .ok (.ifCond .eq 10, 3) := by decide +kernel
theorem dMo_isArithmetic_178 : decode cMo_isArithmetic 178 = .ok (.aload_n 0, 1) := by decide +kernel
theorem dMo_isArithmetic_179 : decode cMo_isArithmetic 179 = .ok (.invokevirtual 53, 3) := by decide +kernel
theorem dMo_isArithmetic_182 : decode cMo_isArithmetic 182 = .ok (.ifCond .ne 7, 3) := by decide +kernel
theorem dMo_isArithmetic_185 : decode cMo_isArithmetic 185 = .ok (.iconst 1, 1) := by decide +kernel
theorem dMo_isArithmetic_186 : decode cMo_isArithmetic 186 = .ok (.goto 4, 3) := by decide +kernel
theorem dMo_isArithmetic_189 : decode cMo_isArithmetic 189 = .ok (.iconst 0, 1) := by decide +kernel
theorem dMo_isArithmetic_190 : decode cMo_isArithmetic 190 = .ok (.ireturn, 1) := by decide +kernel
theorem dMo_isArithmetic_191 : decode cMo_isArithmetic 191 = .ok (.aload_n 0, 1) := by decide +kernel
theorem dMo_isArithmetic_192 : decode cMo_isArithmetic 192 = .ok (.invokevirtual 64, 3) := by decide +kernel
theorem dMo_isArithmetic_195 : decode cMo_isArithmetic 195 = .ok (.ifCond .eq 22, 3) := by decide +kernel
theorem dMo_isArithmetic_198 : decode cMo_isArithmetic 198 = .ok (.aload_n 0, 1) := by decide +kernel
theorem dMo_isArithmetic_199 : decode cMo_isArithmetic 199 = .ok (.getfield 47, 3) := by decide +kernel
theorem dMo_isArithmetic_202 : decode cMo_isArithmetic 202 = .ok (.ifCond .eq 11, 3) := by decide +kernel
theorem dMo_isArithmetic_205 : decode cMo_isArithmetic 205 = .ok (.aload_n 0, 1) := by decide +kernel
theorem dMo_isArithmetic_206 : decode cMo_isArithmetic 206 = .ok (.getfield 47, 3) := by decide +kernel
theorem dMo_isArithmetic_209 : decode cMo_isArithmetic 209 = .ok (.iconst 1, 1) := by decide +kernel
theorem dMo_isArithmetic_210 : decode cMo_isArithmetic 210 = .ok (.if_icmp .ne 7, 3) := by decide +kernel
theorem dMo_isArithmetic_213 : decode cMo_isArithmetic 213 = .ok (.iconst 1, 1) := by decide +kernel
theorem dMo_isArithmetic_214 : decode cMo_isArithmetic 214 = .ok (.goto 4, 3) := by decide +kernel
theorem dMo_isArithmetic_217 : decode cMo_isArithmetic 217 = .ok (.iconst 0, 1) := by decide +kernel
theorem dMo_isArithmetic_218 : decode cMo_isArithmetic 218 = .ok (.ireturn, 1) := by decide +kernel
theorem dMo_isArithmetic_219 : decode cMo_isArithmetic 219 = .ok (.aload_n 0, 1) := by decide +kernel
theorem dMo_isArithmetic_220 : decode cMo_isArithmetic 220 = .ok (.invokevirtual 64, 3) := by decide +kernel
theorem dMo_isArithmetic_223 : decode cMo_isArithmetic 223 = .ok (.ifCond .eq 52, 3) := by decide +kernel
theorem dMo_isArithmetic_226 : decode cMo_isArithmetic 226 = .ok (.aload_n 0, 1) := by decide +kernel
theorem dMo_isArithmetic_227 : decode cMo_isArithmetic 227 = .ok (.getfield 47, 3) := by decide +kernel
theorem dMo_isArithmetic_230 : decode cMo_isArithmetic 230 = .ok (.ifCond .eq 41, 3) := by decide +kernel
theorem dMo_isArithmetic_233 : decode cMo_isArithmetic 233 = .ok (.aload_n 0, 1) := by decide +kernel
theorem dMo_isArithmetic_234 : decode cMo_isArithmetic 234 = .ok (.invokevirtual 53, 3) := by decide +kernel
theorem dMo_isArithmetic_237 : decode cMo_isArithmetic 237 = .ok (.ifCond .eq 38, 3) := by decide +kernel
theorem dMo_isArithmetic_240 : decode cMo_isArithmetic 240 = .ok (.aload_n 0, 1) := by decide +kernel
theorem dMo_isArithmetic_241 : decode cMo_isArithmetic 241 = .ok (.getfield 47, 3) := by decide +kernel
theorem dMo_isArithmetic_244 : decode cMo_isArithmetic 244 = .ok (.bipush 8, 2) := by decide +kernel
theorem dMo_isArithmetic_246 : decode cMo_isArithmetic 246 = .ok (.if_icmp .eq 25, 3) := by decide +kernel
theorem dMo_isArithmetic_249 : decode cMo_isArithmetic 249 = .ok (.aload_n 0, 1) := by decide +kernel
theorem dMo_isArithmetic_250 : decode cMo_isArithmetic 250 = .ok (.getfield 47, 3) := by decide +kernel
theorem dMo_isArithmetic_253 : decode cMo_isArithmetic 253 = .ok (.bipush 16, 2) := by decide +kernel
theorem dMo_isArithmetic_255 : decode cMo_isArithmetic 255 = .ok (.if_icmp .eq 16, 3) := by decide +kernel
theorem dMo_isArithmetic_258 : decode cMo_isArithmetic 258 = .ok (.iload_n 1, 1) := by decide +kernel
theorem dMo_isArithmetic_259 : decode cMo_isArithmetic 259 = .ok (.ifCond .eq 16, 3) := by decide +kernel
theorem dMo_isArithmetic_262 : decode cMo_isArithmetic 262 = .ok (.aload_n 0, 1) := by decide +kernel
theorem dMo_isArithmetic_263 : decode cMo_isArithmetic 263 = .ok (.getfield 47, 3) := by decide +kernel
theorem dMo_isArithmetic_266 : decode cMo_isArithmetic 266 = .ok (.bipush 32, 2) := by decide +kernel
theorem dMo_isArithmetic_268 : decode cMo_isArithmetic 268 = .ok (.if_icmp .ne 7, 3) := by decide +kernel
theorem dMo_isArithmetic_271 : decode cMo_isArithmetic 271 = .ok (.iconst 1, 1) := by decide +kernel
theorem dMo_isArithmetic_272 : decode cMo_isArithmetic 272 = .ok (.goto 4, 3) := by decide +kernel
theorem dMo_isArithmetic_275 : decode cMo_isArithmetic 275 = .ok (.iconst 0, 1) := by decide +kernel
theorem dMo_isArithmetic_276 : decode cMo_isArithmetic 276 = .ok (.ireturn, 1) := by decide +kernel
theorem dMo_isArithmetic_277 : decode cMo_isArithmetic 277 = .ok (.aload_n 0, 1) := by decide +kernel
theorem dMo_isArithmetic_278 : decode cMo_isArithmetic 278 = .ok (.invokevirtual 61, 3) := by decide +kernel
theorem dMo_isArithmetic_281 : decode cMo_isArithmetic 281 = .ok (.bipush 13, 2) := by decide +kernel
theorem dMo_isArithmetic_283 : decode cMo_isArithmetic 283 = .ok (.if_icmp .ge 21, 3) := by decide +kernel
theorem dMo_isArithmetic_286 : decode cMo_isArithmetic 286 = .ok (.aload_n 0, 1) := by decide +kernel
theorem dMo_isArithmetic_287 : decode cMo_isArithmetic 287 = .ok (.invokevirtual 64, 3) := by decide +kernel
theorem dMo_isArithmetic_290 : decode cMo_isArithmetic 290 = .ok (.ifCond .eq 14, 3) := by decide +kernel
theorem dMo_isArithmetic_293 : decode cMo_isArithmetic 293 = .ok (.aload_n 0, 1) := by decide +kernel
theorem dMo_isArithmetic_294 : decode cMo_isArithmetic 294 = .ok (.getfield 47, 3) := by decide +kernel
theorem dMo_isArithmetic_297 : decode cMo_isArithmetic 297 = .ok (.ifCond .ne 7, 3) := by decide +kernel
theorem dMo_isArithmetic_300 : decode cMo_isArithmetic 300 = .ok (.iconst 1, 1) := by decide +kernel
theorem dMo_isArithmetic_301 : decode cMo_isArithmetic 301 = .ok (.goto 4, 3) := by decide +kernel
theorem dMo_isArithmetic_304 : decode cMo_isArithmetic 304 = .ok (.iconst 0, 1) := by decide +kernel
theorem dMo_isArithmetic_305 : decode cMo_isArithmetic 305 = .ok (.ireturn, 1) := by decide +kernel
theorem dMo_isJump_0 : decode cMo_isJump 0 = .ok (.aload_n 0, 1) := by decide +kernel
theorem dMo_isJump_1 : decode cMo_isJump 1 = .ok (.invokevirtual 57, 3) := by decide +kernel
theorem dMo_isJump_4 : decode cMo_isJump 4 = .ok (.bipush 6, 2) := by decide +kernel
theorem dMo_isJump_6 : decode cMo_isJump 6 = .ok (.if_icmp .ne 7, 3) := by decide +kernel
theorem dMo_isJump_9 : decode cMo_isJump 9 = .ok (.iconst 1, 1) := by decide +kernel
theorem dMo_isJump_10 : decode cMo_isJump 10 = .ok (.goto 4, 3) := by decide +kernel
theorem dMo_isJump_13 : decode cMo_isJump 13 = .ok (.iconst 0, 1) := by decide +kernel
theorem dMo_isJump_14 : decode cMo_isJump 14 = .ok (.istore_n 1, 1) := by decide +kernel
theorem dMo_isJump_15 : decode cMo_isJump 15 = .ok (.aload_n 0, 1) := by decide +kernel
theorem dMo_isJump_16 : decode cMo_isJump 16 = .ok (.invokevirtual 61, 3) := by decide +kernel
theorem dMo_isJump_19 : decode cMo_isJump 19 = .ok (.lookupswitch 170 #[(0, 33), (8, 81), (9, 122)], 33) := by decide +kernel
theorem dMo_isJump_52 : decode cMo_isJump 52 = .ok (.aload_n 0, 1) := by decide +kernel
theorem dMo_isJump_53 : decode cMo_isJump 53 = .ok (.invokevirtual 53, 3) := by decide +kernel
theorem dMo_isJump_56 : decode cMo_isJump 56 = .ok (.ifCond .ne 42, 3) := by decide +kernel
theorem dMo_isJump_59 : decode cMo_isJump 59 = .ok (.aload_n 0, 1) := by decide +kernel
theorem dMo_isJump_60 : decode cMo_isJump 60 = .ok (.getfield 37, 3) := by decide +kernel
theorem dMo_isJump_63 : decode cMo_isJump 63 = .ok (.ifCond .ne 35, 3) := by decide +kernel
theorem dMo_isJump_66 : decode cMo_isJump 66 = .ok (.aload_n 0, 1) := by decide +kernel
theorem dMo_isJump_67 : decode cMo_isJump 67 = .ok (.getfield 40, 3) := by decide +kernel
theorem dMo_isJump_70 : decode cMo_isJump 70 = .ok (.ifCond .ne 28, 3) := by decide +kernel
theorem dMo_isJump_73 : decode cMo_isJump 73 = .ok (.iload_n 1, 1) := by decide +kernel
theorem dMo_isJump_74 : decode cMo_isJump 74 = .ok (.ifCond .eq 13, 3) := by decide +kernel
theorem dMo_isJump_77 : decode cMo_isJump 77 = .ok (.aload_n 0, 1) := by decide +kernel
theorem dMo_isJump_78 : decode cMo_isJump 78 = .ok (.getfield 47, 3) := by decide +kernel
theorem dMo_isJump_81 : decode cMo_isJump 81 = .ok (.ifCond .ne 17, 3) := by decide +kernel
theorem dMo_isJump_84 : decode cMo_isJump 84 = .ok (.goto 10, 3) := by decide +kernel
theorem dMo_isJump_87 : decode cMo_isJump 87 = .ok (.aload_n 0, 1) := by decide +kernel
theorem dMo_isJump_88 : decode cMo_isJump 88 = .ok (.getfield 50, 3) := by decide +kernel
theorem dMo_isJump_91 : decode cMo_isJump 91 = .ok (.ifCond .ne 7, 3) := by decide +kernel
theorem dMo_isJump_94 : decode cMo_isJump 94 = .ok (.iconst 1, 1) := by decide +kernel
theorem dMo_isJump_95 : decode cMo_isJump 95 = .ok (.goto 4, 3) := by decide +kernel
theorem dMo_isJump_98 : decode cMo_isJump 98 = .ok (.iconst 0, 1) := by decide +kernel
theorem dMo_isJump_99 : decode cMo_isJump 99 = .ok (.ireturn, 1) := by decide +kernel
theorem dMo_isJump_100 : decode cMo_isJump 100 = .ok (.iload_n 1, 1) := by decide +kernel
theorem dMo_isJump_101 : decode cMo_isJump 101 = .ok (.ifCond .ne 38, 3) := by decide +kernel
theorem dMo_isJump_104 : decode cMo_isJump 104 = .ok (.aload_n 0, 1) := by decide +kernel
theorem dMo_isJump_105 : decode cMo_isJump 105 = .ok (.getfield 34, 3) := by decide +kernel
theorem dMo_isJump_108 : decode cMo_isJump 108 = .ok (.sipush 133, 3) := by decide +kernel
theorem dMo_isJump_111 : decode cMo_isJump 111 = .ok (.if_icmp .ne 28, 3) := by decide +kernel
theorem dMo_isJump_114 : decode cMo_isJump 114 = .ok (.aload_n 0, 1) := by decide +kernel
theorem dMo_isJump_115 : decode cMo_isJump 115 = .ok (.getfield 37, 3) := by decide +kernel
theorem dMo_isJump_118 : decode cMo_isJump 118 = .ok (.ifCond .ne 21, 3) := by decide +kernel
theorem dMo_isJump_121 : decode cMo_isJump 121 = .ok (.aload_n 0, 1) := by decide +kernel
theorem dMo_isJump_122 : decode cMo_isJump 122 = .ok (.getfield 40, 3) := by decide +kernel
theorem dMo_isJump_125 : decode cMo_isJump 125 = .ok (.ifCond .ne 14, 3) := by decide +kernel
theorem dMo_isJump_128 : decode cMo_isJump 128 = .ok (.aload_n 0, 1) := by decide +kernel
theorem dMo_isJump_129 : decode cMo_isJump 129 = .ok (.getfield 47, 3) := by decide +kernel
theorem dMo_isJump_132 : decode cMo_isJump 132 = .ok (.ifCond .ne 7, 3) := by decide +kernel
theorem dMo_isJump_135 : decode cMo_isJump 135 = .ok (.iconst 1, 1) := by decide +kernel
theorem dMo_isJump_136 : decode cMo_isJump 136 = .ok (.goto 4, 3) := by decide +kernel
theorem dMo_isJump_139 : decode cMo_isJump 139 = .ok (.iconst 0, 1) := by decide +kernel
theorem dMo_isJump_140 : decode cMo_isJump 140 = .ok (.ireturn, 1) := by decide +kernel
theorem dMo_isJump_141 : decode cMo_isJump 141 = .ok (.iload_n 1, 1) := by decide +kernel
theorem dMo_isJump_142 : decode cMo_isJump 142 = .ok (.ifCond .ne 45, 3) := by decide +kernel
theorem dMo_isJump_145 : decode cMo_isJump 145 = .ok (.aload_n 0, 1) := by decide +kernel
theorem dMo_isJump_146 : decode cMo_isJump 146 = .ok (.getfield 34, 3) := by decide +kernel
theorem dMo_isJump_149 : decode cMo_isJump 149 = .ok (.sipush 149, 3) := by decide +kernel
theorem dMo_isJump_152 : decode cMo_isJump 152 = .ok (.if_icmp .ne 35, 3) := by decide +kernel
theorem dMo_isJump_155 : decode cMo_isJump 155 = .ok (.aload_n 0, 1) := by decide +kernel
theorem dMo_isJump_156 : decode cMo_isJump 156 = .ok (.getfield 37, 3) := by decide +kernel
theorem dMo_isJump_159 : decode cMo_isJump 159 = .ok (.ifCond .ne 28, 3) := by decide +kernel
theorem dMo_isJump_162 : decode cMo_isJump 162 = .ok (.aload_n 0, 1) := by decide +kernel
theorem dMo_isJump_163 : decode cMo_isJump 163 = .ok (.getfield 40, 3) := by decide +kernel
theorem dMo_isJump_166 : decode cMo_isJump 166 = .ok (.ifCond .ne 21, 3) := by decide +kernel
theorem dMo_isJump_169 : decode cMo_isJump 169 = .ok (.aload_n 0, 1) := by decide +kernel
theorem dMo_isJump_170 : decode cMo_isJump 170 = .ok (.getfield 50, 3) := by decide +kernel
theorem dMo_isJump_173 : decode cMo_isJump 173 = .ok (.ifCond .ne 14, 3) := by decide +kernel
theorem dMo_isJump_176 : decode cMo_isJump 176 = .ok (.aload_n 0, 1) := by decide +kernel
theorem dMo_isJump_177 : decode cMo_isJump 177 = .ok (.getfield 47, 3) := by decide +kernel
theorem dMo_isJump_180 : decode cMo_isJump 180 = .ok (.ifCond .ne 7, 3) := by decide +kernel
theorem dMo_isJump_183 : decode cMo_isJump 183 = .ok (.iconst 1, 1) := by decide +kernel
theorem dMo_isJump_184 : decode cMo_isJump 184 = .ok (.goto 4, 3) := by decide +kernel
theorem dMo_isJump_187 : decode cMo_isJump 187 = .ok (.iconst 0, 1) := by decide +kernel
theorem dMo_isJump_188 : decode cMo_isJump 188 = .ok (.ireturn, 1) := by decide +kernel
theorem dMo_isJump_189 : decode cMo_isJump 189 = .ok (.aload_n 0, 1) := by decide +kernel
theorem dMo_isJump_190 : decode cMo_isJump 190 = .ok (.invokevirtual 61, 3) := by decide +kernel
theorem dMo_isJump_193 : decode cMo_isJump 193 = .ok (.bipush 14, 2) := by decide +kernel
theorem dMo_isJump_195 : decode cMo_isJump 195 = .ok (.if_icmp .ge 23, 3) := by decide +kernel
theorem dMo_isJump_198 : decode cMo_isJump 198 = .ok (.aload_n 0, 1) := by decide +kernel
theorem dMo_isJump_199 : decode cMo_isJump 199 = .ok (.getfield 37, 3) := by decide +kernel
theorem dMo_isJump_202 : decode cMo_isJump 202 = .ok (.bipush 11, 2) := by decide +kernel
theorem dMo_isJump_204 : decode cMo_isJump 204 = .ok (.if_icmp .ge 14, 3) := by decide +kernel
theorem dMo_isJump_207 : decode cMo_isJump 207 = .ok (.aload_n 0, 1) := by decide +kernel
theorem dMo_isJump_208 : decode cMo_isJump 208 = .ok (.invokevirtual 64, 3) := by decide +kernel
theorem dMo_isJump_211 : decode cMo_isJump 211 = .ok (.ifCond .eq 7, 3) := by decide +kernel
theorem dMo_isJump_214 : decode cMo_isJump 214 = .ok (.iconst 1, 1) := by decide +kernel
theorem dMo_isJump_215 : decode cMo_isJump 215 = .ok (.goto 4, 3) := by decide +kernel
theorem dMo_isJump_218 : decode cMo_isJump 218 = .ok (.iconst 0, 1) := by decide +kernel
theorem dMo_isJump_219 : decode cMo_isJump 219 = .ok (.ireturn, 1) := by decide +kernel
