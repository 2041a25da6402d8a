theorem dMo_isThere_0 : decode cMo_isThere 0 = .ok (.lload_n 0, 1) := by decide +kernel
theorem dMo_isThere_1 : decode cMo_isThere 1 = .ok (.ldc2_w 107, 3) := by decide +kernel
theorem dMo_isThere_4 : decode cMo_isThere 4 = .ok (.lcmp, 1) := by decide +kernel
theorem dMo_isThere_5 : decode cMo_isThere 5 = .ok (.ifCond .lt 18, 3) := by decide +kernel
theorem dMo_isThere_8 : decode cMo_isThere 8 = .ok (.lload_n 0, 1) := by decide +kernel
theorem dMo_isThere_9 : decode cMo_isThere 9 = .ok (.ldc2_w 109, 3) := by decide +kernel
theorem dMo_isThere_12 : decode cMo_isThere 12 = .ok (.iload_n 2, 1) := by decide +kernel
theorem dMo_isThere_13 : decode cMo_isThere 13 = .ok (.i2l, 1) := by decide +kernel
theorem dMo_isThere_14 : decode cMo_isThere 14 = .ok (.lsub, 1) := by decide +kernel
theorem dMo_isThere_15 : decode cMo_isThere 15 = .ok (.lcmp, 1) := by decide +kernel
theorem dMo_isThere_16 : decode cMo_isThere 16 = .ok (.ifCond .gt 7, 3) := by decide +kernel
theorem dMo_isThere_19 : decode cMo_isThere 19 = .ok (.iconst 1, 1) := by decide +kernel
theorem dMo_isThere_20 : decode cMo_isThere 20 = .ok (.goto 4, 3) := by decide +kernel
theorem dMo_isThere_23 : decode cMo_isThere 23 = .ok (.iconst 0, 1) := by decide +kernel
theorem dMo_isThere_24 : decode cMo_isThere 24 = .ok (.ireturn, 1) := by decide +kernel
theorem dMo_loadJ_0 : decode cMo_loadJ 0 = .ok (.lconst 0, 1) := by decide +kernel
theorem dMo_loadJ_1 : decode cMo_loadJ 1 = .ok (.lstore 4, 2) := by decide +kernel
theorem dMo_loadJ_3 : decode cMo_loadJ 3 = .ok (.iload_n 3, 1) := by decide +kernel
theorem dMo_loadJ_4 : decode cMo_loadJ 4 = .ok (.iconst 1, 1) := by decide +kernel
theorem dMo_loadJ_5 : decode cMo_loadJ 5 = .ok (.isub, 1) := by decide +kernel
theorem dMo_loadJ_6 : decode cMo_loadJ 6 = .ok (.istore 6, 2) := by decide +kernel
theorem dMo_loadJ_8 : decode cMo_loadJ 8 = .ok (.iload 6, 2) := by decide +kernel
theorem dMo_loadJ_10 : decode cMo_loadJ 10 = .ok (.ifCond .lt 33, 3) := by decide +kernel
theorem dMo_loadJ_13 : decode cMo_loadJ 13 = .ok (.ldc2_w 111, 3) := by decide +kernel
theorem dMo_loadJ_16 : decode cMo_loadJ 16 = .ok (.lload 4, 2) := by decide +kernel
theorem dMo_loadJ_18 : decode cMo_loadJ 18 = .ok (.lmul, 1) := by decide +kernel
theorem dMo_loadJ_19 : decode cMo_loadJ 19 = .ok (.aload_n 0, 1) := by decide +kernel
theorem dMo_loadJ_20 : decode cMo_loadJ 20 = .ok (.getfield 21, 3) := by decide +kernel
theorem dMo_loadJ_23 : decode cMo_loadJ 23 = .ok (.lload_n 1, 1) := by decide +kernel
theorem dMo_loadJ_24 : decode cMo_loadJ 24 = .ok (.ldc2_w 107, 3) := by decide +kernel
theorem dMo_loadJ_27 : decode cMo_loadJ 27 = .ok (.lsub, 1) := by decide +kernel
theorem dMo_loadJ_28 : decode cMo_loadJ 28 = .ok (.l2i, 1) := by decide +kernel
theorem dMo_loadJ_29 : decode cMo_loadJ 29 = .ok (.iload 6, 2) := by decide +kernel
theorem dMo_loadJ_31 : decode cMo_loadJ 31 = .ok (.iadd, 1) := by decide +kernel
theorem dMo_loadJ_32 : decode cMo_loadJ 32 = .ok (.iaload, 1) := by decide +kernel
theorem dMo_loadJ_33 : decode cMo_loadJ 33 = .ok (.i2l, 1) := by decide +kernel
theorem dMo_loadJ_34 : decode cMo_loadJ 34 = .ok (.ladd, 1) := by decide +kernel
theorem dMo_loadJ_35 : decode cMo_loadJ 35 = .ok (.lstore 4, 2) := by decide +kernel
theorem dMo_loadJ_37 : decode cMo_loadJ 37 = .ok (.iinc 6 (-1), 3) := by decide +kernel
theorem dMo_loadJ_40 : decode cMo_loadJ 40 = .ok (.goto (-32), 3) := by decide +kernel
theorem dMo_loadJ_43 : decode cMo_loadJ 43 = .ok (.lload 4, 2) := by decide +kernel
theorem dMo_loadJ_45 : decode cMo_loadJ 45 = .ok (.lreturn, 1) := by decide +kernel
theorem dMo_store_0 : decode cMo_store 0 = .ok (.iconst 0, 1) := by decide +kernel
theorem dMo_store_1 : decode cMo_store 1 = .ok (.istore 6, 2) := by decide +kernel
theorem dMo_store_3 : decode cMo_store 3 = .ok (.iload 6, 2) := by decide +kernel
theorem dMo_store_5 : decode cMo_store 5 = .ok (.iload_n 3, 1) := by decide +kernel
theorem dMo_store_6 : decode cMo_store 6 = .ok (.if_icmp .ge 36, 3) := by decide +kernel
theorem dMo_store_9 : decode cMo_store 9 = .ok (.aload_n 0, 1) := by decide +kernel
theorem dMo_store_10 : decode cMo_store 10 = .ok (.getfield 21, 3) := by decide +kernel
theorem dMo_store_13 : decode cMo_store 13 = .ok (.lload_n 1, 1) := by decide +kernel
theorem dMo_store_14 : decode cMo_store 14 = .ok (.ldc2_w 107, 3) := by decide +kernel
theorem dMo_store_17 : decode cMo_store 17 = .ok (.lsub, 1) := by decide +kernel
theorem dMo_store_18 : decode cMo_store 18 = .ok (.l2i, 1) := by decide +kernel
theorem dMo_store_19 : decode cMo_store 19 = .ok (.iload 6, 2) := by decide +kernel
theorem dMo_store_21 : decode cMo_store 21 = .ok (.iadd, 1) := by decide +kernel
theorem dMo_store_22 : decode cMo_store 22 = .ok (.lload 4, 2) := by decide +kernel
theorem dMo_store_24 : decode cMo_store 24 = .ok (.bipush 8, 2) := by decide +kernel
theorem dMo_store_26 : decode cMo_store 26 = .ok (.iload 6, 2) := by decide +kernel
theorem dMo_store_28 : decode cMo_store 28 = .ok (.imul, 1) := by decide +kernel
theorem dMo_store_29 : decode cMo_store 29 = .ok (.lushr, 1) := by decide +kernel
theorem dMo_store_30 : decode cMo_store 30 = .ok (.l2i, 1) := by decide +kernel
theorem dMo_store_31 : decode cMo_store 31 = .ok (.sipush 255, 3) := by decide +kernel
theorem dMo_store_34 : decode cMo_store 34 = .ok (.iand, 1) := by decide +kernel
theorem dMo_store_35 : decode cMo_store 35 = .ok (.iastore, 1) := by decide +kernel
theorem dMo_store_36 : decode cMo_store 36 = .ok (.iinc 6 1, 3) := by decide +kernel
theorem dMo_store_39 : decode cMo_store 39 = .ok (.goto (-36), 3) := by decide +kernel
theorem dMo_store_42 : decode cMo_store 42 = .ok (.return_, 1) := by decide +kernel
theorem dMo_put_0 : decode cMo_put 0 = .ok (.aload_n 0, 1) := by decide +kernel
theorem dMo_put_1 : decode cMo_put 1 = .ok (.lload_n 1, 1) := by decide +kernel
theorem dMo_put_2 : decode cMo_put 2 = .ok (.bipush 8, 2) := by decide +kernel
theorem dMo_put_4 : decode cMo_put 4 = .ok (.invokestatic 113, 3) := by decide +kernel
theorem dMo_put_7 : decode cMo_put 7 = .ok (.ifCond .eq 7, 3) := by decide +kernel
theorem dMo_put_10 : decode cMo_put 10 = .ok (.iconst 0, 1) := by decide +kernel
theorem dMo_put_11 : decode cMo_put 11 = .ok (.goto 4, 3) := by decide +kernel
theorem dMo_put_14 : decode cMo_put 14 = .ok (.iconst 1, 1) := by decide +kernel
theorem dMo_put_15 : decode cMo_put 15 = .ok (.putfield 28, 3) := by decide +kernel
theorem dMo_put_18 : decode cMo_put 18 = .ok (.aload_n 0, 1) := by decide +kernel
theorem dMo_put_19 : decode cMo_put 19 = .ok (.getfield 28, 3) := by decide +kernel
theorem dMo_put_22 : decode cMo_put 22 = .ok (.ifCond .ne 11, 3) := by decide +kernel
theorem dMo_put_25 : decode cMo_put 25 = .ok (.aload_n 0, 1) := by decide +kernel
theorem dMo_put_26 : decode cMo_put 26 = .ok (.lload_n 1, 1) := by decide +kernel
theorem dMo_put_27 : decode cMo_put 27 = .ok (.bipush 8, 2) := by decide +kernel
theorem dMo_put_29 : decode cMo_put 29 = .ok (.lload_n 3, 1) := by decide +kernel
theorem dMo_put_30 : decode cMo_put 30 = .ok (.invokevirtual 116, 3) := by decide +kernel
theorem dMo_put_33 : decode cMo_put 33 = .ok (.return_, 1) := by decide +kernel
theorem dMo_word_0 : decode cMo_word 0 = .ok (.aload_n 0, 1) := by decide +kernel
theorem dMo_word_1 : decode cMo_word 1 = .ok (.lload_n 1, 1) := by decide +kernel
theorem dMo_word_2 : decode cMo_word 2 = .ok (.bipush 8, 2) := by decide +kernel
theorem dMo_word_4 : decode cMo_word 4 = .ok (.invokestatic 113, 3) := by decide +kernel
theorem dMo_word_7 : decode cMo_word 7 = .ok (.ifCond .eq 7, 3) := by decide +kernel
theorem dMo_word_10 : decode cMo_word 10 = .ok (.iconst 0, 1) := by decide +kernel
theorem dMo_word_11 : decode cMo_word 11 = .ok (.goto 4, 3) := by decide +kernel
theorem dMo_word_14 : decode cMo_word 14 = .ok (.iconst 1, 1) := by decide +kernel
theorem dMo_word_15 : decode cMo_word 15 = .ok (.putfield 28, 3) := by decide +kernel
theorem dMo_word_18 : decode cMo_word 18 = .ok (.aload_n 0, 1) := by decide +kernel
theorem dMo_word_19 : decode cMo_word 19 = .ok (.getfield 28, 3) := by decide +kernel
theorem dMo_word_22 : decode cMo_word 22 = .ok (.ifCond .le 7, 3) := by decide +kernel
theorem dMo_word_25 : decode cMo_word 25 = .ok (.lconst 0, 1) := by decide +kernel
theorem dMo_word_26 : decode cMo_word 26 = .ok (.goto 10, 3) := by decide +kernel
theorem dMo_word_29 : decode cMo_word 29 = .ok (.aload_n 0, 1) := by decide +kernel
theorem dMo_word_30 : decode cMo_word 30 = .ok (.lload_n 1, 1) := by decide +kernel
theorem dMo_word_31 : decode cMo_word 31 = .ok (.bipush 8, 2) := by decide +kernel
theorem dMo_word_33 : decode cMo_word 33 = .ok (.invokevirtual 120, 3) := by decide +kernel
theorem dMo_word_36 : decode cMo_word 36 = .ok (.lreturn, 1) := by decide +kernel
theorem dMo_isLess_0 : decode cMo_isLess 0 = .ok (.lload_n 0, 1) := by decide +kernel
theorem dMo_isLess_1 : decode cMo_isLess 1 = .ok (.lconst 0, 1) := by decide +kernel
theorem dMo_isLess_2 : decode cMo_isLess 2 = .ok (.lcmp, 1) := by decide +kernel
theorem dMo_isLess_3 : decode cMo_isLess 3 = .ok (.ifCond .ge 7, 3) := by decide +kernel
theorem dMo_isLess_6 : decode cMo_isLess 6 = .ok (.iconst 1, 1) := by decide +kernel
theorem dMo_isLess_7 : decode cMo_isLess 7 = .ok (.goto 4, 3) := by decide +kernel
theorem dMo_isLess_10 : decode cMo_isLess 10 = .ok (.iconst 0, 1) := by decide +kernel
theorem dMo_isLess_11 : decode cMo_isLess 11 = .ok (.lload_n 2, 1) := by decide +kernel
theorem dMo_isLess_12 : decode cMo_isLess 12 = .ok (.lconst 0, 1) := by decide +kernel
theorem dMo_isLess_13 : decode cMo_isLess 13 = .ok (.lcmp, 1) := by decide +kernel
theorem dMo_isLess_14 : decode cMo_isLess 14 = .ok (.ifCond .ge 7, 3) := by decide +kernel
theorem dMo_isLess_17 : decode cMo_isLess 17 = .ok (.iconst 1, 1) := by decide +kernel
theorem dMo_isLess_18 : decode cMo_isLess 18 = .ok (.goto 4, 3) := by decide +kernel
theorem dMo_isLess_21 : decode cMo_isLess 21 = .ok (.iconst 0, 1) := by decide +kernel
theorem dMo_isLess_22 : decode cMo_isLess 22 = .ok (.if_icmp .ne 17, 3) := by decide +kernel
theorem dMo_isLess_25 : decode cMo_isLess 25 = .ok (.lload_n 0, 1) := by decide +kernel
theorem dMo_isLess_26 : decode cMo_isLess 26 = .ok (.lload_n 2, 1) := by decide +kernel
theorem dMo_isLess_27 : decode cMo_isLess 27 = .ok (.lcmp, 1) := by decide +kernel
theorem dMo_isLess_28 : decode cMo_isLess 28 = .ok (.ifCond .ge 7, 3) := by decide +kernel
theorem dMo_isLess_31 : decode cMo_isLess 31 = .ok (.iconst 1, 1) := by decide +kernel
theorem dMo_isLess_32 : decode cMo_isLess 32 = .ok (.goto 18, 3) := by decide +kernel
theorem dMo_isLess_35 : decode cMo_isLess 35 = .ok (.iconst 0, 1) := by decide +kernel
theorem dMo_isLess_36 : decode cMo_isLess 36 = .ok (.goto 14, 3) := by decide +kernel
theorem dMo_isLess_39 : decode cMo_isLess 39 = .ok (.lload_n 2, 1) := by decide +kernel
theorem dMo_isLess_40 : decode cMo_isLess 40 = .ok (.lconst 0, 1) := by decide +kernel
theorem dMo_isLess_41 : decode cMo_isLess 41 = .ok (.lcmp, 1) := by decide +kernel
theorem dMo_isLess_42 : decode cMo_isLess 42 = .ok (.ifCond .ge 7, 3) := by decide +kernel
theorem dMo_isLess_45 : decode cMo_isLess 45 = .ok (.iconst 1, 1) := by decide +kernel
theorem dMo_isLess_46 : decode cMo_isLess 46 = .ok (.goto 4, 3) := by decide +kernel
theorem dMo_isLess_49 : decode cMo_isLess 49 = .ok (.iconst 0, 1) := by decide +kernel
theorem dMo_isLess_50 : decode cMo_isLess 50 = .ok (.ireturn, 1) := by decide +kernel
