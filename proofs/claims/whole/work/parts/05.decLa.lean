theorem dLa_feed_0 : decode cLa_feed 0 = .ok (.aload 6, 2) := by decide +kernel
theorem dLa_feed_2 : decode cLa_feed 2 = .ok (.iconst 0, 1) := by decide +kernel
theorem dLa_feed_3 : decode cLa_feed 3 = .ok (.aload_n 0, 1) := by decide +kernel
theorem dLa_feed_4 : decode cLa_feed 4 = .ok (.iload_n 1, 1) := by decide +kernel
theorem dLa_feed_5 : decode cLa_feed 5 = .ok (.iload_n 2, 1) := by decide +kernel
theorem dLa_feed_6 : decode cLa_feed 6 = .ok (.iload_n 3, 1) := by decide +kernel
theorem dLa_feed_7 : decode cLa_feed 7 = .ok (.iload 4, 2) := by decide +kernel
theorem dLa_feed_9 : decode cLa_feed 9 = .ok (.iload 5, 2) := by decide +kernel
theorem dLa_feed_11 : decode cLa_feed 11 = .ok (.invokevirtual 7, 3) := by decide +kernel
theorem dLa_feed_14 : decode cLa_feed 14 = .ok (.i2l, 1) := by decide +kernel
theorem dLa_feed_15 : decode cLa_feed 15 = .ok (.lastore, 1) := by decide +kernel
theorem dLa_feed_16 : decode cLa_feed 16 = .ok (.goto 7, 3) := by decide +kernel
theorem dLa_feed_19 : decode cLa_feed 19 = .ok (.astore 7, 2) := by decide +kernel
theorem dLa_feed_21 : decode cLa_feed 21 = .ok (.iconst 1, 1) := by decide +kernel
theorem dLa_feed_22 : decode cLa_feed 22 = .ok (.ireturn, 1) := by decide +kernel
theorem dLa_feed_23 : decode cLa_feed 23 = .ok (.iconst 0, 1) := by decide +kernel
theorem dLa_feed_24 : decode cLa_feed 24 = .ok (.ireturn, 1) := by decide +kernel
theorem dLa_end_0 : decode cLa_end 0 = .ok (.aload_n 0, 1) := by decide +kernel
theorem dLa_end_1 : decode cLa_end 1 = .ok (.iload_n 1, 1) := by decide +kernel
theorem dLa_end_2 : decode cLa_end 2 = .ok (.invokevirtual 15, 3) := by decide +kernel
theorem dLa_end_5 : decode cLa_end 5 = .ok (.goto 6, 3) := by decide +kernel
theorem dLa_end_8 : decode cLa_end 8 = .ok (.astore_n 2, 1) := by decide +kernel
theorem dLa_end_9 : decode cLa_end 9 = .ok (.iconst 1, 1) := by decide +kernel
theorem dLa_end_10 : decode cLa_end 10 = .ok (.ireturn, 1) := by decide +kernel
theorem dLa_end_11 : decode cLa_end 11 = .ok (.iconst 0, 1) := by decide +kernel
theorem dLa_end_12 : decode cLa_end 12 = .ok (.ireturn, 1) := by decide +kernel
theorem dLa_set_0 : decode cLa_set 0 = .ok (.aload_n 0, 1) := by decide +kernel
theorem dLa_set_1 : decode cLa_set 1 = .ok (.iload_n 1, 1) := by decide +kernel
theorem dLa_set_2 : decode cLa_set 2 = .ok (.lload_n 2, 1) := by decide +kernel
theorem dLa_set_3 : decode cLa_set 3 = .ok (.invokevirtual 21, 3) := by decide +kernel
theorem dLa_set_6 : decode cLa_set 6 = .ok (.goto 7, 3) := by decide +kernel
theorem dLa_set_9 : decode cLa_set 9 = .ok (.astore 4, 2) := by decide +kernel
theorem dLa_set_11 : decode cLa_set 11 = .ok (.iconst 1, 1) := by decide +kernel
theorem dLa_set_12 : decode cLa_set 12 = .ok (.ireturn, 1) := by decide +kernel
theorem dLa_set_13 : decode cLa_set 13 = .ok (.iconst 0, 1) := by decide +kernel
theorem dLa_set_14 : decode cLa_set 14 = .ok (.ireturn, 1) := by decide +kernel
theorem dLa_get_0 : decode cLa_get 0 = .ok (.aload_n 2, 1) := by decide +kernel
theorem dLa_get_1 : decode cLa_get 1 = .ok (.iconst 0, 1) := by decide +kernel
theorem dLa_get_2 : decode cLa_get 2 = .ok (.aload_n 0, 1) := by decide +kernel
theorem dLa_get_3 : decode cLa_get 3 = .ok (.iload_n 1, 1) := by decide +kernel
theorem dLa_get_4 : decode cLa_get 4 = .ok (.invokevirtual 27, 3) := by decide +kernel
theorem dLa_get_7 : decode cLa_get 7 = .ok (.lastore, 1) := by decide +kernel
theorem dLa_get_8 : decode cLa_get 8 = .ok (.goto 6, 3) := by decide +kernel
theorem dLa_get_11 : decode cLa_get 11 = .ok (.astore_n 3, 1) := by decide +kernel
theorem dLa_get_12 : decode cLa_get 12 = .ok (.iconst 1, 1) := by decide +kernel
theorem dLa_get_13 : decode cLa_get 13 = .ok (.ireturn, 1) := by decide +kernel
theorem dLa_get_14 : decode cLa_get 14 = .ok (.iconst 0, 1) := by decide +kernel
theorem dLa_get_15 : decode cLa_get 15 = .ok (.ireturn, 1) := by decide +kernel
theorem dLa_put_0 : decode cLa_put 0 = .ok (.aload_n 0, 1) := by decide +kernel
theorem dLa_put_1 : decode cLa_put 1 = .ok (.lload_n 1, 1) := by decide +kernel
theorem dLa_put_2 : decode cLa_put 2 = .ok (.lload_n 3, 1) := by decide +kernel
theorem dLa_put_3 : decode cLa_put 3 = .ok (.invokevirtual 31, 3) := by decide +kernel
theorem dLa_put_6 : decode cLa_put 6 = .ok (.goto 7, 3) := by decide +kernel
theorem dLa_put_9 : decode cLa_put 9 = .ok (.astore 5, 2) := by decide +kernel
theorem dLa_put_11 : decode cLa_put 11 = .ok (.iconst 1, 1) := by decide +kernel
theorem dLa_put_12 : decode cLa_put 12 = .ok (.ireturn, 1) := by decide +kernel
theorem dLa_put_13 : decode cLa_put 13 = .ok (.iconst 0, 1) := by decide +kernel
theorem dLa_put_14 : decode cLa_put 14 = .ok (.ireturn, 1) := by decide +kernel
theorem dLa_word_0 : decode cLa_word 0 = .ok (.aload_n 3, 1) := by decide +kernel
theorem dLa_word_1 : decode cLa_word 1 = .ok (.iconst 0, 1) := by decide +kernel
theorem dLa_word_2 : decode cLa_word 2 = .ok (.aload_n 0, 1) := by decide +kernel
theorem dLa_word_3 : decode cLa_word 3 = .ok (.lload_n 1, 1) := by decide +kernel
theorem dLa_word_4 : decode cLa_word 4 = .ok (.invokevirtual 35, 3) := by decide +kernel
theorem dLa_word_7 : decode cLa_word 7 = .ok (.lastore, 1) := by decide +kernel
theorem dLa_word_8 : decode cLa_word 8 = .ok (.goto 7, 3) := by decide +kernel
theorem dLa_word_11 : decode cLa_word 11 = .ok (.astore 4, 2) := by decide +kernel
theorem dLa_word_13 : decode cLa_word 13 = .ok (.iconst 1, 1) := by decide +kernel
theorem dLa_word_14 : decode cLa_word 14 = .ok (.ireturn, 1) := by decide +kernel
theorem dLa_word_15 : decode cLa_word 15 = .ok (.iconst 0, 1) := by decide +kernel
theorem dLa_word_16 : decode cLa_word 16 = .ok (.ireturn, 1) := by decide +kernel
theorem dLa_run_0 : decode cLa_run 0 = .ok (.aload_n 2, 1) := by decide +kernel
theorem dLa_run_1 : decode cLa_run 1 = .ok (.iconst 0, 1) := by decide +kernel
theorem dLa_run_2 : decode cLa_run 2 = .ok (.aload_n 0, 1) := by decide +kernel
theorem dLa_run_3 : decode cLa_run 3 = .ok (.iload_n 1, 1) := by decide +kernel
theorem dLa_run_4 : decode cLa_run 4 = .ok (.invokevirtual 39, 3) := by decide +kernel
theorem dLa_run_7 : decode cLa_run 7 = .ok (.i2l, 1) := by decide +kernel
theorem dLa_run_8 : decode cLa_run 8 = .ok (.lastore, 1) := by decide +kernel
theorem dLa_run_9 : decode cLa_run 9 = .ok (.goto 9, 3) := by decide +kernel
theorem dLa_run_12 : decode cLa_run 12 = .ok (.astore_n 3, 1) := by decide +kernel
theorem dLa_run_13 : decode cLa_run 13 = .ok (.iconst 1, 1) := by decide +kernel
theorem dLa_run_14 : decode cLa_run 14 = .ok (.ireturn, 1) := by decide +kernel
theorem dLa_run_15 : decode cLa_run 15 = .ok (.astore_n 3, 1) := by decide +kernel
theorem dLa_run_16 : decode cLa_run 16 = .ok (.iconst 2, 1) := by decide +kernel
theorem dLa_run_17 : decode cLa_run 17 = .ok (.ireturn, 1) := by decide +kernel
theorem dLa_run_18 : decode cLa_run 18 = .ok (.iconst 0, 1) := by decide +kernel
theorem dLa_run_19 : decode cLa_run 19 = .ok (.ireturn, 1) := by decide +kernel
