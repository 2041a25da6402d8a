theorem dLa_law_0 : decode code 0 = .ok (.new 8, 3) := by decide +kernel
theorem dLa_law_3 : decode code 3 = .ok (.dup, 1) := by decide +kernel
theorem dLa_law_4 : decode code 4 = .ok (.invokespecial 43, 3) := by decide +kernel
theorem dLa_law_7 : decode code 7 = .ok (.astore_n 1, 1) := by decide +kernel
theorem dLa_law_8 : decode code 8 = .ok (.new 44, 3) := by decide +kernel
theorem dLa_law_11 : decode code 11 = .ok (.dup, 1) := by decide +kernel
theorem dLa_law_12 : decode code 12 = .ok (.invokespecial 46, 3) := by decide +kernel
theorem dLa_law_15 : decode code 15 = .ok (.astore_n 2, 1) := by decide +kernel
theorem dLa_law_16 : decode code 16 = .ok (.iconst 1, 1) := by decide +kernel
theorem dLa_law_17 : decode code 17 = .ok (.newarray .long, 2) := by decide +kernel
theorem dLa_law_19 : decode code 19 = .ok (.astore_n 3, 1) := by decide +kernel
theorem dLa_law_20 : decode code 20 = .ok (.iconst 0, 1) := by decide +kernel
theorem dLa_law_21 : decode code 21 = .ok (.istore 4, 2) := by decide +kernel
theorem dLa_law_23 : decode code 23 = .ok (.iload 4, 2) := by decide +kernel
theorem dLa_law_25 : decode code 25 = .ok (.aload_n 0, 1) := by decide +kernel
theorem dLa_law_26 : decode code 26 = .ok (.arraylength, 1) := by decide +kernel
theorem dLa_law_27 : decode code 27 = .ok (.bipush 6, 2) := by decide +kernel
theorem dLa_law_29 : decode code 29 = .ok (.isub, 1) := by decide +kernel
theorem dLa_law_30 : decode code 30 = .ok (.if_icmp .gt 658, 3) := by decide +kernel
theorem dLa_law_33 : decode code 33 = .ok (.aload_n 0, 1) := by decide +kernel
theorem dLa_law_34 : decode code 34 = .ok (.iload 4, 2) := by decide +kernel
theorem dLa_law_36 : decode code 36 = .ok (.iaload, 1) := by decide +kernel
theorem dLa_law_37 : decode code 37 = .ok (.bipush 15, 2) := by decide +kernel
theorem dLa_law_39 : decode code 39 = .ok (.iand, 1) := by decide +kernel
theorem dLa_law_40 : decode code 40 = .ok (.tableswitch 642 0 10 #[60, 164, 200, 213, 226, 306, 361, 473, 560, 616, 629], 60) := by decide +kernel
theorem dLa_law_100 : decode code 100 = .ok (.aload_n 1, 1) := by decide +kernel
theorem dLa_law_101 : decode code 101 = .ok (.aload_n 0, 1) := by decide +kernel
theorem dLa_law_102 : decode code 102 = .ok (.iload 4, 2) := by decide +kernel
theorem dLa_law_104 : decode code 104 = .ok (.iconst 1, 1) := by decide +kernel
theorem dLa_law_105 : decode code 105 = .ok (.iadd, 1) := by decide +kernel
theorem dLa_law_106 : decode code 106 = .ok (.iaload, 1) := by decide +kernel
theorem dLa_law_107 : decode code 107 = .ok (.aload_n 0, 1) := by decide +kernel
theorem dLa_law_108 : decode code 108 = .ok (.iload 4, 2) := by decide +kernel
theorem dLa_law_110 : decode code 110 = .ok (.iconst 2, 1) := by decide +kernel
theorem dLa_law_111 : decode code 111 = .ok (.iadd, 1) := by decide +kernel
theorem dLa_law_112 : decode code 112 = .ok (.iaload, 1) := by decide +kernel
theorem dLa_law_113 : decode code 113 = .ok (.aload_n 0, 1) := by decide +kernel
theorem dLa_law_114 : decode code 114 = .ok (.iload 4, 2) := by decide +kernel
theorem dLa_law_116 : decode code 116 = .ok (.iconst 3, 1) := by decide +kernel
theorem dLa_law_117 : decode code 117 = .ok (.iadd, 1) := by decide +kernel
theorem dLa_law_118 : decode code 118 = .ok (.iaload, 1) := by decide +kernel
theorem dLa_law_119 : decode code 119 = .ok (.aload_n 0, 1) := by decide +kernel
theorem dLa_law_120 : decode code 120 = .ok (.iload 4, 2) := by decide +kernel
theorem dLa_law_122 : decode code 122 = .ok (.iconst 4, 1) := by decide +kernel
theorem dLa_law_123 : decode code 123 = .ok (.iadd, 1) := by decide +kernel
theorem dLa_law_124 : decode code 124 = .ok (.iaload, 1) := by decide +kernel
theorem dLa_law_125 : decode code 125 = .ok (.aload_n 0, 1) := by decide +kernel
theorem dLa_law_126 : decode code 126 = .ok (.iload 4, 2) := by decide +kernel
theorem dLa_law_128 : decode code 128 = .ok (.iconst 5, 1) := by decide +kernel
theorem dLa_law_129 : decode code 129 = .ok (.iadd, 1) := by decide +kernel
theorem dLa_law_130 : decode code 130 = .ok (.iaload, 1) := by decide +kernel
theorem dLa_law_131 : decode code 131 = .ok (.aload_n 3, 1) := by decide +kernel
theorem dLa_law_132 : decode code 132 = .ok (.invokestatic 47, 3) := by decide +kernel
theorem dLa_law_135 : decode code 135 = .ok (.istore 5, 2) := by decide +kernel
theorem dLa_law_137 : decode code 137 = .ok (.aload_n 2, 1) := by decide +kernel
theorem dLa_law_138 : decode code 138 = .ok (.aload_n 0, 1) := by decide +kernel
theorem dLa_law_139 : decode code 139 = .ok (.iload 4, 2) := by decide +kernel
theorem dLa_law_141 : decode code 141 = .ok (.iconst 1, 1) := by decide +kernel
theorem dLa_law_142 : decode code 142 = .ok (.iadd, 1) := by decide +kernel
theorem dLa_law_143 : decode code 143 = .ok (.iaload, 1) := by decide +kernel
theorem dLa_law_144 : decode code 144 = .ok (.aload_n 0, 1) := by decide +kernel
theorem dLa_law_145 : decode code 145 = .ok (.iload 4, 2) := by decide +kernel
theorem dLa_law_147 : decode code 147 = .ok (.iconst 2, 1) := by decide +kernel
theorem dLa_law_148 : decode code 148 = .ok (.iadd, 1) := by decide +kernel
theorem dLa_law_149 : decode code 149 = .ok (.iaload, 1) := by decide +kernel
theorem dLa_law_150 : decode code 150 = .ok (.aload_n 0, 1) := by decide +kernel
theorem dLa_law_151 : decode code 151 = .ok (.iload 4, 2) := by decide +kernel
theorem dLa_law_153 : decode code 153 = .ok (.iconst 3, 1) := by decide +kernel
theorem dLa_law_154 : decode code 154 = .ok (.iadd, 1) := by decide +kernel
theorem dLa_law_155 : decode code 155 = .ok (.iaload, 1) := by decide +kernel
theorem dLa_law_156 : decode code 156 = .ok (.aload_n 0, 1) := by decide +kernel
theorem dLa_law_157 : decode code 157 = .ok (.iload 4, 2) := by decide +kernel
theorem dLa_law_159 : decode code 159 = .ok (.iconst 4, 1) := by decide +kernel
theorem dLa_law_160 : decode code 160 = .ok (.iadd, 1) := by decide +kernel
theorem dLa_law_161 : decode code 161 = .ok (.iaload, 1) := by decide +kernel
theorem dLa_law_162 : decode code 162 = .ok (.aload_n 0, 1) := by decide +kernel
theorem dLa_law_163 : decode code 163 = .ok (.iload 4, 2) := by decide +kernel
theorem dLa_law_165 : decode code 165 = .ok (.iconst 5, 1) := by decide +kernel
theorem dLa_law_166 : decode code 166 = .ok (.iadd, 1) := by decide +kernel
theorem dLa_law_167 : decode code 167 = .ok (.iaload, 1) := by decide +kernel
theorem dLa_law_168 : decode code 168 = .ok (.invokevirtual 52, 3) := by decide +kernel
theorem dLa_law_171 : decode code 171 = .ok (.istore 6, 2) := by decide +kernel
theorem dLa_law_173 : decode code 173 = .ok (.aload_n 2, 1) := by decide +kernel
theorem dLa_law_174 : decode code 174 = .ok (.invokevirtual 53, 3) := by decide +kernel
theorem dLa_law_177 : decode code 177 = .ok (.iload 5, 2) := by decide +kernel
theorem dLa_law_179 : decode code 179 = .ok (.if_icmp .eq 5, 3) := by decide +kernel
theorem dLa_law_182 : decode code 182 = .ok (.iconst 0, 1) := by decide +kernel
theorem dLa_law_183 : decode code 183 = .ok (.ireturn, 1) := by decide +kernel
theorem dLa_law_184 : decode code 184 = .ok (.iload 5, 2) := by decide +kernel
theorem dLa_law_186 : decode code 186 = .ok (.ifCond .ne 15, 3) := by decide +kernel
theorem dLa_law_189 : decode code 189 = .ok (.aload_n 3, 1) := by decide +kernel
theorem dLa_law_190 : decode code 190 = .ok (.iconst 0, 1) := by decide +kernel
theorem dLa_law_191 : decode code 191 = .ok (.laload, 1) := by decide +kernel
theorem dLa_law_192 : decode code 192 = .ok (.iload 6, 2) := by decide +kernel
theorem dLa_law_194 : decode code 194 = .ok (.i2l, 1) := by decide +kernel
theorem dLa_law_195 : decode code 195 = .ok (.lcmp, 1) := by decide +kernel
theorem dLa_law_196 : decode code 196 = .ok (.ifCond .eq 5, 3) := by decide +kernel
theorem dLa_law_199 : decode code 199 = .ok (.iconst 0, 1) := by decide +kernel
theorem dLa_law_200 : decode code 200 = .ok (.ireturn, 1) := by decide +kernel
theorem dLa_law_201 : decode code 201 = .ok (.goto 481, 3) := by decide +kernel
theorem dLa_law_204 : decode code 204 = .ok (.aload_n 1, 1) := by decide +kernel
theorem dLa_law_205 : decode code 205 = .ok (.aload_n 0, 1) := by decide +kernel
theorem dLa_law_206 : decode code 206 = .ok (.iload 4, 2) := by decide +kernel
theorem dLa_law_208 : decode code 208 = .ok (.iconst 1, 1) := by decide +kernel
theorem dLa_law_209 : decode code 209 = .ok (.iadd, 1) := by decide +kernel
theorem dLa_law_210 : decode code 210 = .ok (.iaload, 1) := by decide +kernel
theorem dLa_law_211 : decode code 211 = .ok (.invokestatic 57, 3) := by decide +kernel
theorem dLa_law_214 : decode code 214 = .ok (.istore 5, 2) := by decide +kernel
theorem dLa_law_216 : decode code 216 = .ok (.aload_n 2, 1) := by decide +kernel
theorem dLa_law_217 : decode code 217 = .ok (.aload_n 0, 1) := by decide +kernel
theorem dLa_law_218 : decode code 218 = .ok (.iload 4, 2) := by decide +kernel
theorem dLa_law_220 : decode code 220 = .ok (.iconst 1, 1) := by decide +kernel
theorem dLa_law_221 : decode code 221 = .ok (.iadd, 1) := by decide +kernel
theorem dLa_law_222 : decode code 222 = .ok (.iaload, 1) := by decide +kernel
theorem dLa_law_223 : decode code 223 = .ok (.invokevirtual 60, 3) := by decide +kernel
theorem dLa_law_226 : decode code 226 = .ok (.aload_n 2, 1) := by decide +kernel
theorem dLa_law_227 : decode code 227 = .ok (.invokevirtual 53, 3) := by decide +kernel
theorem dLa_law_230 : decode code 230 = .ok (.iload 5, 2) := by decide +kernel
theorem dLa_law_232 : decode code 232 = .ok (.if_icmp .eq 5, 3) := by decide +kernel
theorem dLa_law_235 : decode code 235 = .ok (.iconst 0, 1) := by decide +kernel
theorem dLa_law_236 : decode code 236 = .ok (.ireturn, 1) := by decide +kernel
theorem dLa_law_237 : decode code 237 = .ok (.goto 445, 3) := by decide +kernel
theorem dLa_law_240 : decode code 240 = .ok (.aload_n 1, 1) := by decide +kernel
theorem dLa_law_241 : decode code 241 = .ok (.invokevirtual 61, 3) := by decide +kernel
theorem dLa_law_244 : decode code 244 = .ok (.aload_n 2, 1) := by decide +kernel
theorem dLa_law_245 : decode code 245 = .ok (.invokevirtual 64, 3) := by decide +kernel
theorem dLa_law_248 : decode code 248 = .ok (.if_icmp .eq 434, 3) := by decide +kernel
theorem dLa_law_251 : decode code 251 = .ok (.iconst 0, 1) := by decide +kernel
theorem dLa_law_252 : decode code 252 = .ok (.ireturn, 1) := by decide +kernel
theorem dLa_law_253 : decode code 253 = .ok (.aload_n 1, 1) := by decide +kernel
theorem dLa_law_254 : decode code 254 = .ok (.invokevirtual 65, 3) := by decide +kernel
theorem dLa_law_257 : decode code 257 = .ok (.aload_n 2, 1) := by decide +kernel
theorem dLa_law_258 : decode code 258 = .ok (.invokevirtual 68, 3) := by decide +kernel
theorem dLa_law_261 : decode code 261 = .ok (.if_icmp .eq 421, 3) := by decide +kernel
theorem dLa_law_264 : decode code 264 = .ok (.iconst 0, 1) := by decide +kernel
theorem dLa_law_265 : decode code 265 = .ok (.ireturn, 1) := by decide +kernel
theorem dLa_law_266 : decode code 266 = .ok (.aload_n 1, 1) := by decide +kernel
theorem dLa_law_267 : decode code 267 = .ok (.aload_n 0, 1) := by decide +kernel
theorem dLa_law_268 : decode code 268 = .ok (.iload 4, 2) := by decide +kernel
theorem dLa_law_270 : decode code 270 = .ok (.iconst 1, 1) := by decide +kernel
theorem dLa_law_271 : decode code 271 = .ok (.iadd, 1) := by decide +kernel
theorem dLa_law_272 : decode code 272 = .ok (.iaload, 1) := by decide +kernel
theorem dLa_law_273 : decode code 273 = .ok (.aload_n 0, 1) := by decide +kernel
theorem dLa_law_274 : decode code 274 = .ok (.iload 4, 2) := by decide +kernel
theorem dLa_law_276 : decode code 276 = .ok (.iconst 2, 1) := by decide +kernel
theorem dLa_law_277 : decode code 277 = .ok (.iadd, 1) := by decide +kernel
theorem dLa_law_278 : decode code 278 = .ok (.iaload, 1) := by decide +kernel
theorem dLa_law_279 : decode code 279 = .ok (.i2l, 1) := by decide +kernel
theorem dLa_law_280 : decode code 280 = .ok (.bipush 32, 2) := by decide +kernel
theorem dLa_law_282 : decode code 282 = .ok (.lshl, 1) := by decide +kernel
theorem dLa_law_283 : decode code 283 = .ok (.aload_n 0, 1) := by decide +kernel
theorem dLa_law_284 : decode code 284 = .ok (.iload 4, 2) := by decide +kernel
theorem dLa_law_286 : decode code 286 = .ok (.iconst 3, 1) := by decide +kernel
theorem dLa_law_287 : decode code 287 = .ok (.iadd, 1) := by decide +kernel
theorem dLa_law_288 : decode code 288 = .ok (.iaload, 1) := by decide +kernel
theorem dLa_law_289 : decode code 289 = .ok (.i2l, 1) := by decide +kernel
theorem dLa_law_290 : decode code 290 = .ok (.ldc2_w 69, 3) := by decide +kernel
theorem dLa_law_293 : decode code 293 = .ok (.land, 1) := by decide +kernel
theorem dLa_law_294 : decode code 294 = .ok (.lor, 1) := by decide +kernel
theorem dLa_law_295 : decode code 295 = .ok (.invokestatic 71, 3) := by decide +kernel
theorem dLa_law_298 : decode code 298 = .ok (.istore 5, 2) := by decide +kernel
theorem dLa_law_300 : decode code 300 = .ok (.aload_n 2, 1) := by decide +kernel
theorem dLa_law_301 : decode code 301 = .ok (.aload_n 0, 1) := by decide +kernel
theorem dLa_law_302 : decode code 302 = .ok (.iload 4, 2) := by decide +kernel
theorem dLa_law_304 : decode code 304 = .ok (.iconst 1, 1) := by decide +kernel
theorem dLa_law_305 : decode code 305 = .ok (.iadd, 1) := by decide +kernel
theorem dLa_law_306 : decode code 306 = .ok (.iaload, 1) := by decide +kernel
theorem dLa_law_307 : decode code 307 = .ok (.aload_n 0, 1) := by decide +kernel
theorem dLa_law_308 : decode code 308 = .ok (.iload 4, 2) := by decide +kernel
theorem dLa_law_310 : decode code 310 = .ok (.iconst 2, 1) := by decide +kernel
theorem dLa_law_311 : decode code 311 = .ok (.iadd, 1) := by decide +kernel
theorem dLa_law_312 : decode code 312 = .ok (.iaload, 1) := by decide +kernel
theorem dLa_law_313 : decode code 313 = .ok (.i2l, 1) := by decide +kernel
theorem dLa_law_314 : decode code 314 = .ok (.bipush 32, 2) := by decide +kernel
theorem dLa_law_316 : decode code 316 = .ok (.lshl, 1) := by decide +kernel
theorem dLa_law_317 : decode code 317 = .ok (.aload_n 0, 1) := by decide +kernel
theorem dLa_law_318 : decode code 318 = .ok (.iload 4, 2) := by decide +kernel
theorem dLa_law_320 : decode code 320 = .ok (.iconst 3, 1) := by decide +kernel
theorem dLa_law_321 : decode code 321 = .ok (.iadd, 1) := by decide +kernel
theorem dLa_law_322 : decode code 322 = .ok (.iaload, 1) := by decide +kernel
theorem dLa_law_323 : decode code 323 = .ok (.i2l, 1) := by decide +kernel
theorem dLa_law_324 : decode code 324 = .ok (.ldc2_w 69, 3) := by decide +kernel
theorem dLa_law_327 : decode code 327 = .ok (.land, 1) := by decide +kernel
theorem dLa_law_328 : decode code 328 = .ok (.lor, 1) := by decide +kernel
theorem dLa_law_329 : decode code 329 = .ok (.invokevirtual 74, 3) := by decide +kernel
theorem dLa_law_332 : decode code 332 = .ok (.aload_n 2, 1) := by decide +kernel
theorem dLa_law_333 : decode code 333 = .ok (.invokevirtual 53, 3) := by decide +kernel
theorem dLa_law_336 : decode code 336 = .ok (.iload 5, 2) := by decide +kernel
theorem dLa_law_338 : decode code 338 = .ok (.if_icmp .eq 5, 3) := by decide +kernel
theorem dLa_law_341 : decode code 341 = .ok (.iconst 0, 1) := by decide +kernel
theorem dLa_law_342 : decode code 342 = .ok (.ireturn, 1) := by decide +kernel
theorem dLa_law_343 : decode code 343 = .ok (.goto 339, 3) := by decide +kernel
theorem dLa_law_346 : decode code 346 = .ok (.aload_n 1, 1) := by decide +kernel
theorem dLa_law_347 : decode code 347 = .ok (.aload_n 0, 1) := by decide +kernel
theorem dLa_law_348 : decode code 348 = .ok (.iload 4, 2) := by decide +kernel
theorem dLa_law_350 : decode code 350 = .ok (.iconst 1, 1) := by decide +kernel
theorem dLa_law_351 : decode code 351 = .ok (.iadd, 1) := by decide +kernel
theorem dLa_law_352 : decode code 352 = .ok (.iaload, 1) := by decide +kernel
theorem dLa_law_353 : decode code 353 = .ok (.aload_n 3, 1) := by decide +kernel
theorem dLa_law_354 : decode code 354 = .ok (.invokestatic 75, 3) := by decide +kernel
theorem dLa_law_357 : decode code 357 = .ok (.istore 5, 2) := by decide +kernel
theorem dLa_law_359 : decode code 359 = .ok (.aload_n 2, 1) := by decide +kernel
theorem dLa_law_360 : decode code 360 = .ok (.aload_n 0, 1) := by decide +kernel
theorem dLa_law_361 : decode code 361 = .ok (.iload 4, 2) := by decide +kernel
theorem dLa_law_363 : decode code 363 = .ok (.iconst 1, 1) := by decide +kernel
theorem dLa_law_364 : decode code 364 = .ok (.iadd, 1) := by decide +kernel
theorem dLa_law_365 : decode code 365 = .ok (.iaload, 1) := by decide +kernel
theorem dLa_law_366 : decode code 366 = .ok (.invokevirtual 78, 3) := by decide +kernel
theorem dLa_law_369 : decode code 369 = .ok (.lstore 6, 2) := by decide +kernel
theorem dLa_law_371 : decode code 371 = .ok (.aload_n 2, 1) := by decide +kernel
theorem dLa_law_372 : decode code 372 = .ok (.invokevirtual 53, 3) := by decide +kernel
theorem dLa_law_375 : decode code 375 = .ok (.iload 5, 2) := by decide +kernel
theorem dLa_law_377 : decode code 377 = .ok (.if_icmp .eq 5, 3) := by decide +kernel
theorem dLa_law_380 : decode code 380 = .ok (.iconst 0, 1) := by decide +kernel
theorem dLa_law_381 : decode code 381 = .ok (.ireturn, 1) := by decide +kernel
theorem dLa_law_382 : decode code 382 = .ok (.iload 5, 2) := by decide +kernel
theorem dLa_law_384 : decode code 384 = .ok (.ifCond .ne 14, 3) := by decide +kernel
theorem dLa_law_387 : decode code 387 = .ok (.aload_n 3, 1) := by decide +kernel
theorem dLa_law_388 : decode code 388 = .ok (.iconst 0, 1) := by decide +kernel
theorem dLa_law_389 : decode code 389 = .ok (.laload, 1) := by decide +kernel
theorem dLa_law_390 : decode code 390 = .ok (.lload 6, 2) := by decide +kernel
theorem dLa_law_392 : decode code 392 = .ok (.lcmp, 1) := by decide +kernel
theorem dLa_law_393 : decode code 393 = .ok (.ifCond .eq 5, 3) := by decide +kernel
theorem dLa_law_396 : decode code 396 = .ok (.iconst 0, 1) := by decide +kernel
theorem dLa_law_397 : decode code 397 = .ok (.ireturn, 1) := by decide +kernel
theorem dLa_law_398 : decode code 398 = .ok (.goto 284, 3) := by decide +kernel
theorem dLa_law_401 : decode code 401 = .ok (.aload_n 1, 1) := by decide +kernel
theorem dLa_law_402 : decode code 402 = .ok (.aload_n 0, 1) := by decide +kernel
theorem dLa_law_403 : decode code 403 = .ok (.iload 4, 2) := by decide +kernel
theorem dLa_law_405 : decode code 405 = .ok (.iconst 1, 1) := by decide +kernel
theorem dLa_law_406 : decode code 406 = .ok (.iadd, 1) := by decide +kernel
theorem dLa_law_407 : decode code 407 = .ok (.iaload, 1) := by decide +kernel
theorem dLa_law_408 : decode code 408 = .ok (.i2l, 1) := by decide +kernel
theorem dLa_law_409 : decode code 409 = .ok (.bipush 32, 2) := by decide +kernel
theorem dLa_law_411 : decode code 411 = .ok (.lshl, 1) := by decide +kernel
theorem dLa_law_412 : decode code 412 = .ok (.aload_n 0, 1) := by decide +kernel
theorem dLa_law_413 : decode code 413 = .ok (.iload 4, 2) := by decide +kernel
theorem dLa_law_415 : decode code 415 = .ok (.iconst 2, 1) := by decide +kernel
theorem dLa_law_416 : decode code 416 = .ok (.iadd, 1) := by decide +kernel
theorem dLa_law_417 : decode code 417 = .ok (.iaload, 1) := by decide +kernel
theorem dLa_law_418 : decode code 418 = .ok (.i2l, 1) := by decide +kernel
theorem dLa_law_419 : decode code 419 = .ok (.ldc2_w 69, 3) := by decide +kernel
theorem dLa_law_422 : decode code 422 = .ok (.land, 1) := by decide +kernel
theorem dLa_law_423 : decode code 423 = .ok (.lor, 1) := by decide +kernel
theorem dLa_law_424 : decode code 424 = .ok (.aload_n 0, 1) := by decide +kernel
theorem dLa_law_425 : decode code 425 = .ok (.iload 4, 2) := by decide +kernel
theorem dLa_law_427 : decode code 427 = .ok (.iconst 3, 1) := by decide +kernel
theorem dLa_law_428 : decode code 428 = .ok (.iadd, 1) := by decide +kernel
theorem dLa_law_429 : decode code 429 = .ok (.iaload, 1) := by decide +kernel
theorem dLa_law_430 : decode code 430 = .ok (.i2l, 1) := by decide +kernel
theorem dLa_law_431 : decode code 431 = .ok (.bipush 32, 2) := by decide +kernel
theorem dLa_law_433 : decode code 433 = .ok (.lshl, 1) := by decide +kernel
theorem dLa_law_434 : decode code 434 = .ok (.aload_n 0, 1) := by decide +kernel
theorem dLa_law_435 : decode code 435 = .ok (.iload 4, 2) := by decide +kernel
theorem dLa_law_437 : decode code 437 = .ok (.iconst 4, 1) := by decide +kernel
theorem dLa_law_438 : decode code 438 = .ok (.iadd, 1) := by decide +kernel
theorem dLa_law_439 : decode code 439 = .ok (.iaload, 1) := by decide +kernel
theorem dLa_law_440 : decode code 440 = .ok (.i2l, 1) := by decide +kernel
theorem dLa_law_441 : decode code 441 = .ok (.ldc2_w 69, 3) := by decide +kernel
theorem dLa_law_444 : decode code 444 = .ok (.land, 1) := by decide +kernel
theorem dLa_law_445 : decode code 445 = .ok (.lor, 1) := by decide +kernel
theorem dLa_law_446 : decode code 446 = .ok (.invokestatic 79, 3) := by decide +kernel
theorem dLa_law_449 : decode code 449 = .ok (.istore 5, 2) := by decide +kernel
theorem dLa_law_451 : decode code 451 = .ok (.aload_n 2, 1) := by decide +kernel
theorem dLa_law_452 : decode code 452 = .ok (.aload_n 0, 1) := by decide +kernel
theorem dLa_law_453 : decode code 453 = .ok (.iload 4, 2) := by decide +kernel
theorem dLa_law_455 : decode code 455 = .ok (.iconst 1, 1) := by decide +kernel
theorem dLa_law_456 : decode code 456 = .ok (.iadd, 1) := by decide +kernel
theorem dLa_law_457 : decode code 457 = .ok (.iaload, 1) := by decide +kernel
theorem dLa_law_458 : decode code 458 = .ok (.i2l, 1) := by decide +kernel
theorem dLa_law_459 : decode code 459 = .ok (.bipush 32, 2) := by decide +kernel
theorem dLa_law_461 : decode code 461 = .ok (.lshl, 1) := by decide +kernel
theorem dLa_law_462 : decode code 462 = .ok (.aload_n 0, 1) := by decide +kernel
theorem dLa_law_463 : decode code 463 = .ok (.iload 4, 2) := by decide +kernel
theorem dLa_law_465 : decode code 465 = .ok (.iconst 2, 1) := by decide +kernel
theorem dLa_law_466 : decode code 466 = .ok (.iadd, 1) := by decide +kernel
theorem dLa_law_467 : decode code 467 = .ok (.iaload, 1) := by decide +kernel
theorem dLa_law_468 : decode code 468 = .ok (.i2l, 1) := by decide +kernel
theorem dLa_law_469 : decode code 469 = .ok (.ldc2_w 69, 3) := by decide +kernel
theorem dLa_law_472 : decode code 472 = .ok (.land, 1) := by decide +kernel
theorem dLa_law_473 : decode code 473 = .ok (.lor, 1) := by decide +kernel
theorem dLa_law_474 : decode code 474 = .ok (.aload_n 0, 1) := by decide +kernel
theorem dLa_law_475 : decode code 475 = .ok (.iload 4, 2) := by decide +kernel
theorem dLa_law_477 : decode code 477 = .ok (.iconst 3, 1) := by decide +kernel
theorem dLa_law_478 : decode code 478 = .ok (.iadd, 1) := by decide +kernel
theorem dLa_law_479 : decode code 479 = .ok (.iaload, 1) := by decide +kernel
theorem dLa_law_480 : decode code 480 = .ok (.i2l, 1) := by decide +kernel
theorem dLa_law_481 : decode code 481 = .ok (.bipush 32, 2) := by decide +kernel
theorem dLa_law_483 : decode code 483 = .ok (.lshl, 1) := by decide +kernel
theorem dLa_law_484 : decode code 484 = .ok (.aload_n 0, 1) := by decide +kernel
theorem dLa_law_485 : decode code 485 = .ok (.iload 4, 2) := by decide +kernel
theorem dLa_law_487 : decode code 487 = .ok (.iconst 4, 1) := by decide +kernel
theorem dLa_law_488 : decode code 488 = .ok (.iadd, 1) := by decide +kernel
theorem dLa_law_489 : decode code 489 = .ok (.iaload, 1) := by decide +kernel
theorem dLa_law_490 : decode code 490 = .ok (.i2l, 1) := by decide +kernel
theorem dLa_law_491 : decode code 491 = .ok (.ldc2_w 69, 3) := by decide +kernel
theorem dLa_law_494 : decode code 494 = .ok (.land, 1) := by decide +kernel
theorem dLa_law_495 : decode code 495 = .ok (.lor, 1) := by decide +kernel
theorem dLa_law_496 : decode code 496 = .ok (.invokevirtual 82, 3) := by decide +kernel
theorem dLa_law_499 : decode code 499 = .ok (.aload_n 2, 1) := by decide +kernel
theorem dLa_law_500 : decode code 500 = .ok (.invokevirtual 53, 3) := by decide +kernel
theorem dLa_law_503 : decode code 503 = .ok (.iload 5, 2) := by decide +kernel
theorem dLa_law_505 : decode code 505 = .ok (.if_icmp .eq 5, 3) := by decide +kernel
theorem dLa_law_508 : decode code 508 = .ok (.iconst 0, 1) := by decide +kernel
theorem dLa_law_509 : decode code 509 = .ok (.ireturn, 1) := by decide +kernel
theorem dLa_law_510 : decode code 510 = .ok (.goto 172, 3) := by decide +kernel
theorem dLa_law_513 : decode code 513 = .ok (.aload_n 1, 1) := by decide +kernel
theorem dLa_law_514 : decode code 514 = .ok (.aload_n 0, 1) := by decide +kernel
theorem dLa_law_515 : decode code 515 = .ok (.iload 4, 2) := by decide +kernel
theorem dLa_law_517 : decode code 517 = .ok (.iconst 1, 1) := by decide +kernel
theorem dLa_law_518 : decode code 518 = .ok (.iadd, 1) := by decide +kernel
theorem dLa_law_519 : decode code 519 = .ok (.iaload, 1) := by decide +kernel
theorem dLa_law_520 : decode code 520 = .ok (.i2l, 1) := by decide +kernel
theorem dLa_law_521 : decode code 521 = .ok (.bipush 32, 2) := by decide +kernel
theorem dLa_law_523 : decode code 523 = .ok (.lshl, 1) := by decide +kernel
theorem dLa_law_524 : decode code 524 = .ok (.aload_n 0, 1) := by decide +kernel
theorem dLa_law_525 : decode code 525 = .ok (.iload 4, 2) := by decide +kernel
theorem dLa_law_527 : decode code 527 = .ok (.iconst 2, 1) := by decide +kernel
theorem dLa_law_528 : decode code 528 = .ok (.iadd, 1) := by decide +kernel
theorem dLa_law_529 : decode code 529 = .ok (.iaload, 1) := by decide +kernel
theorem dLa_law_530 : decode code 530 = .ok (.i2l, 1) := by decide +kernel
theorem dLa_law_531 : decode code 531 = .ok (.ldc2_w 69, 3) := by decide +kernel
theorem dLa_law_534 : decode code 534 = .ok (.land, 1) := by decide +kernel
theorem dLa_law_535 : decode code 535 = .ok (.lor, 1) := by decide +kernel
theorem dLa_law_536 : decode code 536 = .ok (.aload_n 3, 1) := by decide +kernel
theorem dLa_law_537 : decode code 537 = .ok (.invokestatic 83, 3) := by decide +kernel
theorem dLa_law_540 : decode code 540 = .ok (.istore 5, 2) := by decide +kernel
theorem dLa_law_542 : decode code 542 = .ok (.aload_n 2, 1) := by decide +kernel
theorem dLa_law_543 : decode code 543 = .ok (.aload_n 0, 1) := by decide +kernel
theorem dLa_law_544 : decode code 544 = .ok (.iload 4, 2) := by decide +kernel
theorem dLa_law_546 : decode code 546 = .ok (.iconst 1, 1) := by decide +kernel
theorem dLa_law_547 : decode code 547 = .ok (.iadd, 1) := by decide +kernel
theorem dLa_law_548 : decode code 548 = .ok (.iaload, 1) := by decide +kernel
theorem dLa_law_549 : decode code 549 = .ok (.i2l, 1) := by decide +kernel
theorem dLa_law_550 : decode code 550 = .ok (.bipush 32, 2) := by decide +kernel
theorem dLa_law_552 : decode code 552 = .ok (.lshl, 1) := by decide +kernel
theorem dLa_law_553 : decode code 553 = .ok (.aload_n 0, 1) := by decide +kernel
theorem dLa_law_554 : decode code 554 = .ok (.iload 4, 2) := by decide +kernel
theorem dLa_law_556 : decode code 556 = .ok (.iconst 2, 1) := by decide +kernel
theorem dLa_law_557 : decode code 557 = .ok (.iadd, 1) := by decide +kernel
theorem dLa_law_558 : decode code 558 = .ok (.iaload, 1) := by decide +kernel
theorem dLa_law_559 : decode code 559 = .ok (.i2l, 1) := by decide +kernel
theorem dLa_law_560 : decode code 560 = .ok (.ldc2_w 69, 3) := by decide +kernel
theorem dLa_law_563 : decode code 563 = .ok (.land, 1) := by decide +kernel
theorem dLa_law_564 : decode code 564 = .ok (.lor, 1) := by decide +kernel
theorem dLa_law_565 : decode code 565 = .ok (.invokevirtual 86, 3) := by decide +kernel
theorem dLa_law_568 : decode code 568 = .ok (.lstore 6, 2) := by decide +kernel
theorem dLa_law_570 : decode code 570 = .ok (.aload_n 2, 1) := by decide +kernel
theorem dLa_law_571 : decode code 571 = .ok (.invokevirtual 53, 3) := by decide +kernel
theorem dLa_law_574 : decode code 574 = .ok (.iload 5, 2) := by decide +kernel
theorem dLa_law_576 : decode code 576 = .ok (.if_icmp .eq 5, 3) := by decide +kernel
theorem dLa_law_579 : decode code 579 = .ok (.iconst 0, 1) := by decide +kernel
theorem dLa_law_580 : decode code 580 = .ok (.ireturn, 1) := by decide +kernel
theorem dLa_law_581 : decode code 581 = .ok (.iload 5, 2) := by decide +kernel
theorem dLa_law_583 : decode code 583 = .ok (.ifCond .ne 14, 3) := by decide +kernel
theorem dLa_law_586 : decode code 586 = .ok (.aload_n 3, 1) := by decide +kernel
theorem dLa_law_587 : decode code 587 = .ok (.iconst 0, 1) := by decide +kernel
theorem dLa_law_588 : decode code 588 = .ok (.laload, 1) := by decide +kernel
theorem dLa_law_589 : decode code 589 = .ok (.lload 6, 2) := by decide +kernel
theorem dLa_law_591 : decode code 591 = .ok (.lcmp, 1) := by decide +kernel
theorem dLa_law_592 : decode code 592 = .ok (.ifCond .eq 5, 3) := by decide +kernel
theorem dLa_law_595 : decode code 595 = .ok (.iconst 0, 1) := by decide +kernel
theorem dLa_law_596 : decode code 596 = .ok (.ireturn, 1) := by decide +kernel
theorem dLa_law_597 : decode code 597 = .ok (.goto 85, 3) := by decide +kernel
theorem dLa_law_600 : decode code 600 = .ok (.aload_n 1, 1) := by decide +kernel
theorem dLa_law_601 : decode code 601 = .ok (.aload_n 0, 1) := by decide +kernel
theorem dLa_law_602 : decode code 602 = .ok (.iload 4, 2) := by decide +kernel
theorem dLa_law_604 : decode code 604 = .ok (.iconst 1, 1) := by decide +kernel
theorem dLa_law_605 : decode code 605 = .ok (.iadd, 1) := by decide +kernel
theorem dLa_law_606 : decode code 606 = .ok (.iaload, 1) := by decide +kernel
theorem dLa_law_607 : decode code 607 = .ok (.aload_n 3, 1) := by decide +kernel
theorem dLa_law_608 : decode code 608 = .ok (.invokestatic 87, 3) := by decide +kernel
theorem dLa_law_611 : decode code 611 = .ok (.istore 5, 2) := by decide +kernel
theorem dLa_law_613 : decode code 613 = .ok (.aload_n 2, 1) := by decide +kernel
theorem dLa_law_614 : decode code 614 = .ok (.aload_n 0, 1) := by decide +kernel
theorem dLa_law_615 : decode code 615 = .ok (.iload 4, 2) := by decide +kernel
theorem dLa_law_617 : decode code 617 = .ok (.iconst 1, 1) := by decide +kernel
theorem dLa_law_618 : decode code 618 = .ok (.iadd, 1) := by decide +kernel
theorem dLa_law_619 : decode code 619 = .ok (.iaload, 1) := by decide +kernel
theorem dLa_law_620 : decode code 620 = .ok (.invokevirtual 89, 3) := by decide +kernel
theorem dLa_law_623 : decode code 623 = .ok (.istore 6, 2) := by decide +kernel
theorem dLa_law_625 : decode code 625 = .ok (.aload_n 2, 1) := by decide +kernel
theorem dLa_law_626 : decode code 626 = .ok (.invokevirtual 53, 3) := by decide +kernel
theorem dLa_law_629 : decode code 629 = .ok (.iload 5, 2) := by decide +kernel
theorem dLa_law_631 : decode code 631 = .ok (.if_icmp .eq 5, 3) := by decide +kernel
theorem dLa_law_634 : decode code 634 = .ok (.iconst 0, 1) := by decide +kernel
theorem dLa_law_635 : decode code 635 = .ok (.ireturn, 1) := by decide +kernel
theorem dLa_law_636 : decode code 636 = .ok (.iload 5, 2) := by decide +kernel
theorem dLa_law_638 : decode code 638 = .ok (.ifCond .ne 15, 3) := by decide +kernel
theorem dLa_law_641 : decode code 641 = .ok (.aload_n 3, 1) := by decide +kernel
theorem dLa_law_642 : decode code 642 = .ok (.iconst 0, 1) := by decide +kernel
theorem dLa_law_643 : decode code 643 = .ok (.laload, 1) := by decide +kernel
theorem dLa_law_644 : decode code 644 = .ok (.iload 6, 2) := by decide +kernel
theorem dLa_law_646 : decode code 646 = .ok (.i2l, 1) := by decide +kernel
theorem dLa_law_647 : decode code 647 = .ok (.lcmp, 1) := by decide +kernel
theorem dLa_law_648 : decode code 648 = .ok (.ifCond .eq 5, 3) := by decide +kernel
theorem dLa_law_651 : decode code 651 = .ok (.iconst 0, 1) := by decide +kernel
theorem dLa_law_652 : decode code 652 = .ok (.ireturn, 1) := by decide +kernel
theorem dLa_law_653 : decode code 653 = .ok (.goto 29, 3) := by decide +kernel
theorem dLa_law_656 : decode code 656 = .ok (.aload_n 1, 1) := by decide +kernel
theorem dLa_law_657 : decode code 657 = .ok (.invokevirtual 90, 3) := by decide +kernel
theorem dLa_law_660 : decode code 660 = .ok (.aload_n 2, 1) := by decide +kernel
theorem dLa_law_661 : decode code 661 = .ok (.invokevirtual 93, 3) := by decide +kernel
theorem dLa_law_664 : decode code 664 = .ok (.if_icmp .eq 18, 3) := by decide +kernel
theorem dLa_law_667 : decode code 667 = .ok (.iconst 0, 1) := by decide +kernel
theorem dLa_law_668 : decode code 668 = .ok (.ireturn, 1) := by decide +kernel
theorem dLa_law_669 : decode code 669 = .ok (.aload_n 1, 1) := by decide +kernel
theorem dLa_law_670 : decode code 670 = .ok (.invokevirtual 94, 3) := by decide +kernel
theorem dLa_law_673 : decode code 673 = .ok (.aload_n 2, 1) := by decide +kernel
theorem dLa_law_674 : decode code 674 = .ok (.invokevirtual 97, 3) := by decide +kernel
theorem dLa_law_677 : decode code 677 = .ok (.if_icmp .eq 5, 3) := by decide +kernel
theorem dLa_law_680 : decode code 680 = .ok (.iconst 0, 1) := by decide +kernel
theorem dLa_law_681 : decode code 681 = .ok (.ireturn, 1) := by decide +kernel
theorem dLa_law_682 : decode code 682 = .ok (.iinc 4 6, 3) := by decide +kernel
theorem dLa_law_685 : decode code 685 = .ok (.goto (-662), 3) := by decide +kernel
theorem dLa_law_688 : decode code 688 = .ok (.iconst 1, 1) := by decide +kernel
theorem dLa_law_689 : decode code 689 = .ok (.ireturn, 1) := by decide +kernel
