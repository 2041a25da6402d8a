theorem dCp_init_0 : decode cCp_init 0 = .ok (.aload_n 0, 1) := by decide +kernel
theorem dCp_init_1 : decode cCp_init 1 = .ok (.invokespecial 1, 3) := by decide +kernel
theorem dCp_init_4 : decode cCp_init 4 = .ok (.aload_n 0, 1) := by decide +kernel
theorem dCp_init_5 : decode cCp_init 5 = .ok (.new 7, 3) := by decide +kernel
theorem dCp_init_8 : decode cCp_init 8 = .ok (.dup, 1) := by decide +kernel
theorem dCp_init_9 : decode cCp_init 9 = .ok (.invokespecial 9, 3) := by decide +kernel
theorem dCp_init_12 : decode cCp_init 12 = .ok (.putfield 10, 3) := by decide +kernel
theorem dCp_init_15 : decode cCp_init 15 = .ok (.aload_n 0, 1) := by decide +kernel
theorem dCp_init_16 : decode cCp_init 16 = .ok (.new 16, 3) := by decide +kernel
theorem dCp_init_19 : decode cCp_init 19 = .ok (.dup, 1) := by decide +kernel
theorem dCp_init_20 : decode cCp_init 20 = .ok (.invokespecial 18, 3) := by decide +kernel
theorem dCp_init_23 : decode cCp_init 23 = .ok (.putfield 19, 3) := by decide +kernel
theorem dCp_init_26 : decode cCp_init 26 = .ok (.aload_n 0, 1) := by decide +kernel
theorem dCp_init_27 : decode cCp_init 27 = .ok (.new 23, 3) := by decide +kernel
theorem dCp_init_30 : decode cCp_init 30 = .ok (.dup, 1) := by decide +kernel
theorem dCp_init_31 : decode cCp_init 31 = .ok (.invokespecial 25, 3) := by decide +kernel
theorem dCp_init_34 : decode cCp_init 34 = .ok (.putfield 26, 3) := by decide +kernel
theorem dCp_init_37 : decode cCp_init 37 = .ok (.aload_n 0, 1) := by decide +kernel
theorem dCp_init_38 : decode cCp_init 38 = .ok (.iconst (-1), 1) := by decide +kernel
theorem dCp_init_39 : decode cCp_init 39 = .ok (.putfield 30, 3) := by decide +kernel
theorem dCp_init_42 : decode cCp_init 42 = .ok (.aload_n 0, 1) := by decide +kernel
theorem dCp_init_43 : decode cCp_init 43 = .ok (.iconst 0, 1) := by decide +kernel
theorem dCp_init_44 : decode cCp_init 44 = .ok (.putfield 34, 3) := by decide +kernel
theorem dCp_init_47 : decode cCp_init 47 = .ok (.return_, 1) := by decide +kernel
theorem dCp_feed_0 : decode cCp_feed 0 = .ok (.aload_n 0, 1) := by decide +kernel
theorem dCp_feed_1 : decode cCp_feed 1 = .ok (.getfield 10, 3) := by decide +kernel
theorem dCp_feed_4 : decode cCp_feed 4 = .ok (.invokevirtual 37, 3) := by decide +kernel
theorem dCp_feed_7 : decode cCp_feed 7 = .ok (.ifCond .ne 13, 3) := by decide +kernel
theorem dCp_feed_10 : decode cCp_feed 10 = .ok (.new 41, 3) := by decide +kernel
theorem dCp_feed_13 : decode cCp_feed 13 = .ok (.dup, 1) := by decide +kernel
theorem dCp_feed_14 : decode cCp_feed 14 = .ok (.ldc 43, 2) := by decide +kernel
theorem dCp_feed_16 : decode cCp_feed 16 = .ok (.invokespecial 45, 3) := by decide +kernel
theorem dCp_feed_19 : decode cCp_feed 19 = .ok (.athrow, 1) := by decide +kernel
theorem dCp_feed_20 : decode cCp_feed 20 = .ok (.aload_n 0, 1) := by decide +kernel
theorem dCp_feed_21 : decode cCp_feed 21 = .ok (.getfield 10, 3) := by decide +kernel
theorem dCp_feed_24 : decode cCp_feed 24 = .ok (.invokevirtual 48, 3) := by decide +kernel
theorem dCp_feed_27 : decode cCp_feed 27 = .ok (.aload_n 0, 1) := by decide +kernel
theorem dCp_feed_28 : decode cCp_feed 28 = .ok (.getfield 10, 3) := by decide +kernel
theorem dCp_feed_31 : decode cCp_feed 31 = .ok (.iload_n 1, 1) := by decide +kernel
theorem dCp_feed_32 : decode cCp_feed 32 = .ok (.invokevirtual 51, 3) := by decide +kernel
theorem dCp_feed_35 : decode cCp_feed 35 = .ok (.aload_n 0, 1) := by decide +kernel
theorem dCp_feed_36 : decode cCp_feed 36 = .ok (.getfield 10, 3) := by decide +kernel
theorem dCp_feed_39 : decode cCp_feed 39 = .ok (.iload_n 2, 1) := by decide +kernel
theorem dCp_feed_40 : decode cCp_feed 40 = .ok (.invokevirtual 51, 3) := by decide +kernel
theorem dCp_feed_43 : decode cCp_feed 43 = .ok (.aload_n 0, 1) := by decide +kernel
theorem dCp_feed_44 : decode cCp_feed 44 = .ok (.getfield 10, 3) := by decide +kernel
theorem dCp_feed_47 : decode cCp_feed 47 = .ok (.iload_n 3, 1) := by decide +kernel
theorem dCp_feed_48 : decode cCp_feed 48 = .ok (.invokevirtual 51, 3) := by decide +kernel
theorem dCp_feed_51 : decode cCp_feed 51 = .ok (.aload_n 0, 1) := by decide +kernel
theorem dCp_feed_52 : decode cCp_feed 52 = .ok (.getfield 10, 3) := by decide +kernel
theorem dCp_feed_55 : decode cCp_feed 55 = .ok (.iload 4, 2) := by decide +kernel
theorem dCp_feed_57 : decode cCp_feed 57 = .ok (.invokevirtual 51, 3) := by decide +kernel
theorem dCp_feed_60 : decode cCp_feed 60 = .ok (.aload_n 0, 1) := by decide +kernel
theorem dCp_feed_61 : decode cCp_feed 61 = .ok (.getfield 10, 3) := by decide +kernel
theorem dCp_feed_64 : decode cCp_feed 64 = .ok (.iload 5, 2) := by decide +kernel
theorem dCp_feed_66 : decode cCp_feed 66 = .ok (.invokevirtual 51, 3) := by decide +kernel
theorem dCp_feed_69 : decode cCp_feed 69 = .ok (.aload_n 0, 1) := by decide +kernel
theorem dCp_feed_70 : decode cCp_feed 70 = .ok (.getfield 10, 3) := by decide +kernel
theorem dCp_feed_73 : decode cCp_feed 73 = .ok (.getfield 55, 3) := by decide +kernel
theorem dCp_feed_76 : decode cCp_feed 76 = .ok (.ireturn, 1) := by decide +kernel
theorem dCp_end_0 : decode cCp_end 0 = .ok (.iload_n 1, 1) := by decide +kernel
theorem dCp_end_1 : decode cCp_end 1 = .ok (.ifCond .lt 14, 3) := by decide +kernel
theorem dCp_end_4 : decode cCp_end 4 = .ok (.iload_n 1, 1) := by decide +kernel
theorem dCp_end_5 : decode cCp_end 5 = .ok (.aload_n 0, 1) := by decide +kernel
theorem dCp_end_6 : decode cCp_end 6 = .ok (.getfield 10, 3) := by decide +kernel
theorem dCp_end_9 : decode cCp_end 9 = .ok (.getfield 55, 3) := by decide +kernel
theorem dCp_end_12 : decode cCp_end 12 = .ok (.if_icmp .le 13, 3) := by decide +kernel
theorem dCp_end_15 : decode cCp_end 15 = .ok (.new 58, 3) := by decide +kernel
theorem dCp_end_18 : decode cCp_end 18 = .ok (.dup, 1) := by decide +kernel
theorem dCp_end_19 : decode cCp_end 19 = .ok (.ldc 60, 2) := by decide +kernel
theorem dCp_end_21 : decode cCp_end 21 = .ok (.invokespecial 62, 3) := by decide +kernel
theorem dCp_end_24 : decode cCp_end 24 = .ok (.athrow, 1) := by decide +kernel
theorem dCp_end_25 : decode cCp_end 25 = .ok (.aload_n 0, 1) := by decide +kernel
theorem dCp_end_26 : decode cCp_end 26 = .ok (.getfield 10, 3) := by decide +kernel
theorem dCp_end_29 : decode cCp_end 29 = .ok (.iload_n 1, 1) := by decide +kernel
theorem dCp_end_30 : decode cCp_end 30 = .ok (.putfield 55, 3) := by decide +kernel
theorem dCp_end_33 : decode cCp_end 33 = .ok (.return_, 1) := by decide +kernel
theorem dCp_load_0 : decode cCp_load 0 = .ok (.aload_n 0, 1) := by decide +kernel
theorem dCp_load_1 : decode cCp_load 1 = .ok (.getfield 10, 3) := by decide +kernel
theorem dCp_load_4 : decode cCp_load 4 = .ok (.getfield 55, 3) := by decide +kernel
theorem dCp_load_7 : decode cCp_load 7 = .ok (.bipush 8, 2) := by decide +kernel
theorem dCp_load_9 : decode cCp_load 9 = .ok (.irem, 1) := by decide +kernel
theorem dCp_load_10 : decode cCp_load 10 = .ok (.ifCond .eq 7, 3) := by decide +kernel
theorem dCp_load_13 : decode cCp_load 13 = .ok (.iconst 1, 1) := by decide +kernel
theorem dCp_load_14 : decode cCp_load 14 = .ok (.goto 4, 3) := by decide +kernel
theorem dCp_load_17 : decode cCp_load 17 = .ok (.iconst 0, 1) := by decide +kernel
theorem dCp_load_18 : decode cCp_load 18 = .ok (.istore_n 1, 1) := by decide +kernel
theorem dCp_load_19 : decode cCp_load 19 = .ok (.aload_n 0, 1) := by decide +kernel
theorem dCp_load_20 : decode cCp_load 20 = .ok (.getfield 19, 3) := by decide +kernel
theorem dCp_load_23 : decode cCp_load 23 = .ok (.aload_n 0, 1) := by decide +kernel
theorem dCp_load_24 : decode cCp_load 24 = .ok (.getfield 10, 3) := by decide +kernel
theorem dCp_load_27 : decode cCp_load 27 = .ok (.invokevirtual 63, 3) := by decide +kernel
theorem dCp_load_30 : decode cCp_load 30 = .ok (.aload_n 0, 1) := by decide +kernel
theorem dCp_load_31 : decode cCp_load 31 = .ok (.getfield 10, 3) := by decide +kernel
theorem dCp_load_34 : decode cCp_load 34 = .ok (.iconst 0, 1) := by decide +kernel
theorem dCp_load_35 : decode cCp_load 35 = .ok (.putfield 55, 3) := by decide +kernel
theorem dCp_load_38 : decode cCp_load 38 = .ok (.aload_n 0, 1) := by decide +kernel
theorem dCp_load_39 : decode cCp_load 39 = .ok (.getfield 19, 3) := by decide +kernel
theorem dCp_load_42 : decode cCp_load 42 = .ok (.iload_n 1, 1) := by decide +kernel
theorem dCp_load_43 : decode cCp_load 43 = .ok (.invokestatic 67, 3) := by decide +kernel
theorem dCp_load_46 : decode cCp_load 46 = .ok (.istore_n 2, 1) := by decide +kernel
theorem dCp_load_47 : decode cCp_load 47 = .ok (.iload_n 2, 1) := by decide +kernel
theorem dCp_load_48 : decode cCp_load 48 = .ok (.iconst (-1), 1) := by decide +kernel
theorem dCp_load_49 : decode cCp_load 49 = .ok (.if_icmp .ne 11, 3) := by decide +kernel
theorem dCp_load_52 : decode cCp_load 52 = .ok (.aload_n 0, 1) := by decide +kernel
theorem dCp_load_53 : decode cCp_load 53 = .ok (.getfield 19, 3) := by decide +kernel
theorem dCp_load_56 : decode cCp_load 56 = .ok (.invokestatic 73, 3) := by decide +kernel
theorem dCp_load_59 : decode cCp_load 59 = .ok (.istore_n 2, 1) := by decide +kernel
theorem dCp_load_60 : decode cCp_load 60 = .ok (.iload_n 2, 1) := by decide +kernel
theorem dCp_load_61 : decode cCp_load 61 = .ok (.iconst (-1), 1) := by decide +kernel
theorem dCp_load_62 : decode cCp_load 62 = .ok (.if_icmp .eq 11, 3) := by decide +kernel
theorem dCp_load_65 : decode cCp_load 65 = .ok (.aload_n 0, 1) := by decide +kernel
theorem dCp_load_66 : decode cCp_load 66 = .ok (.getfield 19, 3) := by decide +kernel
theorem dCp_load_69 : decode cCp_load 69 = .ok (.iconst 0, 1) := by decide +kernel
theorem dCp_load_70 : decode cCp_load 70 = .ok (.putfield 77, 3) := by decide +kernel
theorem dCp_load_73 : decode cCp_load 73 = .ok (.iload_n 2, 1) := by decide +kernel
theorem dCp_load_74 : decode cCp_load 74 = .ok (.ireturn, 1) := by decide +kernel
theorem dCp_places_0 : decode cCp_places 0 = .ok (.aload_n 0, 1) := by decide +kernel
theorem dCp_places_1 : decode cCp_places 1 = .ok (.getfield 19, 3) := by decide +kernel
theorem dCp_places_4 : decode cCp_places 4 = .ok (.getfield 77, 3) := by decide +kernel
theorem dCp_places_7 : decode cCp_places 7 = .ok (.ireturn, 1) := by decide +kernel
theorem dCp_set_0 : decode cCp_set 0 = .ok (.iload_n 1, 1) := by decide +kernel
theorem dCp_set_1 : decode cCp_set 1 = .ok (.ifCond .lt 9, 3) := by decide +kernel
theorem dCp_set_4 : decode cCp_set 4 = .ok (.iload_n 1, 1) := by decide +kernel
theorem dCp_set_5 : decode cCp_set 5 = .ok (.bipush 11, 2) := by decide +kernel
theorem dCp_set_7 : decode cCp_set 7 = .ok (.if_icmp .lt 13, 3) := by decide +kernel
theorem dCp_set_10 : decode cCp_set 10 = .ok (.new 80, 3) := by decide +kernel
theorem dCp_set_13 : decode cCp_set 13 = .ok (.dup, 1) := by decide +kernel
theorem dCp_set_14 : decode cCp_set 14 = .ok (.ldc 82, 2) := by decide +kernel
theorem dCp_set_16 : decode cCp_set 16 = .ok (.invokespecial 84, 3) := by decide +kernel
theorem dCp_set_19 : decode cCp_set 19 = .ok (.athrow, 1) := by decide +kernel
theorem dCp_set_20 : decode cCp_set 20 = .ok (.aload_n 0, 1) := by decide +kernel
theorem dCp_set_21 : decode cCp_set 21 = .ok (.getfield 26, 3) := by decide +kernel
theorem dCp_set_24 : decode cCp_set 24 = .ok (.getfield 85, 3) := by decide +kernel
theorem dCp_set_27 : decode cCp_set 27 = .ok (.iload_n 1, 1) := by decide +kernel
theorem dCp_set_28 : decode cCp_set 28 = .ok (.lload_n 2, 1) := by decide +kernel
theorem dCp_set_29 : decode cCp_set 29 = .ok (.lastore, 1) := by decide +kernel
theorem dCp_set_30 : decode cCp_set 30 = .ok (.return_, 1) := by decide +kernel
theorem dCp_get_0 : decode cCp_get 0 = .ok (.iload_n 1, 1) := by decide +kernel
theorem dCp_get_1 : decode cCp_get 1 = .ok (.ifCond .lt 9, 3) := by decide +kernel
theorem dCp_get_4 : decode cCp_get 4 = .ok (.iload_n 1, 1) := by decide +kernel
theorem dCp_get_5 : decode cCp_get 5 = .ok (.bipush 11, 2) := by decide +kernel
theorem dCp_get_7 : decode cCp_get 7 = .ok (.if_icmp .lt 13, 3) := by decide +kernel
theorem dCp_get_10 : decode cCp_get 10 = .ok (.new 80, 3) := by decide +kernel
theorem dCp_get_13 : decode cCp_get 13 = .ok (.dup, 1) := by decide +kernel
theorem dCp_get_14 : decode cCp_get 14 = .ok (.ldc 82, 2) := by decide +kernel
theorem dCp_get_16 : decode cCp_get 16 = .ok (.invokespecial 84, 3) := by decide +kernel
theorem dCp_get_19 : decode cCp_get 19 = .ok (.athrow, 1) := by decide +kernel
theorem dCp_get_20 : decode cCp_get 20 = .ok (.aload_n 0, 1) := by decide +kernel
theorem dCp_get_21 : decode cCp_get 21 = .ok (.getfield 26, 3) := by decide +kernel
theorem dCp_get_24 : decode cCp_get 24 = .ok (.getfield 85, 3) := by decide +kernel
theorem dCp_get_27 : decode cCp_get 27 = .ok (.iload_n 1, 1) := by decide +kernel
theorem dCp_get_28 : decode cCp_get 28 = .ok (.laload, 1) := by decide +kernel
theorem dCp_get_29 : decode cCp_get 29 = .ok (.lreturn, 1) := by decide +kernel
theorem dCp_put_0 : decode cCp_put 0 = .ok (.aload_n 0, 1) := by decide +kernel
theorem dCp_put_1 : decode cCp_put 1 = .ok (.getfield 26, 3) := by decide +kernel
theorem dCp_put_4 : decode cCp_put 4 = .ok (.getfield 89, 3) := by decide +kernel
theorem dCp_put_7 : decode cCp_put 7 = .ok (.lload_n 1, 1) := by decide +kernel
theorem dCp_put_8 : decode cCp_put 8 = .ok (.bipush 8, 2) := by decide +kernel
theorem dCp_put_10 : decode cCp_put 10 = .ok (.invokevirtual 93, 3) := by decide +kernel
theorem dCp_put_13 : decode cCp_put 13 = .ok (.ifCond .ne 13, 3) := by decide +kernel
theorem dCp_put_16 : decode cCp_put 16 = .ok (.new 80, 3) := by decide +kernel
theorem dCp_put_19 : decode cCp_put 19 = .ok (.dup, 1) := by decide +kernel
theorem dCp_put_20 : decode cCp_put 20 = .ok (.ldc 99, 2) := by decide +kernel
theorem dCp_put_22 : decode cCp_put 22 = .ok (.invokespecial 84, 3) := by decide +kernel
theorem dCp_put_25 : decode cCp_put 25 = .ok (.athrow, 1) := by decide +kernel
theorem dCp_put_26 : decode cCp_put 26 = .ok (.aload_n 0, 1) := by decide +kernel
theorem dCp_put_27 : decode cCp_put 27 = .ok (.getfield 26, 3) := by decide +kernel
theorem dCp_put_30 : decode cCp_put 30 = .ok (.getfield 89, 3) := by decide +kernel
theorem dCp_put_33 : decode cCp_put 33 = .ok (.lload_n 1, 1) := by decide +kernel
theorem dCp_put_34 : decode cCp_put 34 = .ok (.bipush 8, 2) := by decide +kernel
theorem dCp_put_36 : decode cCp_put 36 = .ok (.lload_n 3, 1) := by decide +kernel
theorem dCp_put_37 : decode cCp_put 37 = .ok (.invokevirtual 101, 3) := by decide +kernel
theorem dCp_put_40 : decode cCp_put 40 = .ok (.return_, 1) := by decide +kernel
theorem dCp_word_0 : decode cCp_word 0 = .ok (.aload_n 0, 1) := by decide +kernel
theorem dCp_word_1 : decode cCp_word 1 = .ok (.getfield 26, 3) := by decide +kernel
theorem dCp_word_4 : decode cCp_word 4 = .ok (.getfield 89, 3) := by decide +kernel
theorem dCp_word_7 : decode cCp_word 7 = .ok (.lload_n 1, 1) := by decide +kernel
theorem dCp_word_8 : decode cCp_word 8 = .ok (.bipush 8, 2) := by decide +kernel
theorem dCp_word_10 : decode cCp_word 10 = .ok (.invokevirtual 93, 3) := by decide +kernel
theorem dCp_word_13 : decode cCp_word 13 = .ok (.ifCond .ne 13, 3) := by decide +kernel
theorem dCp_word_16 : decode cCp_word 16 = .ok (.new 80, 3) := by decide +kernel
theorem dCp_word_19 : decode cCp_word 19 = .ok (.dup, 1) := by decide +kernel
theorem dCp_word_20 : decode cCp_word 20 = .ok (.ldc 99, 2) := by decide +kernel
theorem dCp_word_22 : decode cCp_word 22 = .ok (.invokespecial 84, 3) := by decide +kernel
theorem dCp_word_25 : decode cCp_word 25 = .ok (.athrow, 1) := by decide +kernel
theorem dCp_word_26 : decode cCp_word 26 = .ok (.aload_n 0, 1) := by decide +kernel
theorem dCp_word_27 : decode cCp_word 27 = .ok (.getfield 26, 3) := by decide +kernel
theorem dCp_word_30 : decode cCp_word 30 = .ok (.getfield 89, 3) := by decide +kernel
theorem dCp_word_33 : decode cCp_word 33 = .ok (.lload_n 1, 1) := by decide +kernel
theorem dCp_word_34 : decode cCp_word 34 = .ok (.bipush 8, 2) := by decide +kernel
theorem dCp_word_36 : decode cCp_word 36 = .ok (.invokevirtual 105, 3) := by decide +kernel
theorem dCp_word_39 : decode cCp_word 39 = .ok (.lreturn, 1) := by decide +kernel
theorem dCp_run_0 : decode cCp_run 0 = .ok (.iload_n 1, 1) := by decide +kernel
theorem dCp_run_1 : decode cCp_run 1 = .ok (.ifCond .lt 9, 3) := by decide +kernel
theorem dCp_run_4 : decode cCp_run 4 = .ok (.iload_n 1, 1) := by decide +kernel
theorem dCp_run_5 : decode cCp_run 5 = .ok (.ldc 109, 2) := by decide +kernel
theorem dCp_run_7 : decode cCp_run 7 = .ok (.if_icmp .le 13, 3) := by decide +kernel
theorem dCp_run_10 : decode cCp_run 10 = .ok (.new 58, 3) := by decide +kernel
theorem dCp_run_13 : decode cCp_run 13 = .ok (.dup, 1) := by decide +kernel
theorem dCp_run_14 : decode cCp_run 14 = .ok (.ldc 110, 2) := by decide +kernel
theorem dCp_run_16 : decode cCp_run 16 = .ok (.invokespecial 62, 3) := by decide +kernel
theorem dCp_run_19 : decode cCp_run 19 = .ok (.athrow, 1) := by decide +kernel
theorem dCp_run_20 : decode cCp_run 20 = .ok (.aload_n 0, 1) := by decide +kernel
theorem dCp_run_21 : decode cCp_run 21 = .ok (.getfield 19, 3) := by decide +kernel
theorem dCp_run_24 : decode cCp_run 24 = .ok (.getfield 77, 3) := by decide +kernel
theorem dCp_run_27 : decode cCp_run 27 = .ok (.ifCond .ne 13, 3) := by decide +kernel
theorem dCp_run_30 : decode cCp_run 30 = .ok (.new 41, 3) := by decide +kernel
theorem dCp_run_33 : decode cCp_run 33 = .ok (.dup, 1) := by decide +kernel
theorem dCp_run_34 : decode cCp_run 34 = .ok (.ldc 112, 2) := by decide +kernel
theorem dCp_run_36 : decode cCp_run 36 = .ok (.invokespecial 45, 3) := by decide +kernel
theorem dCp_run_39 : decode cCp_run 39 = .ok (.athrow, 1) := by decide +kernel
theorem dCp_run_40 : decode cCp_run 40 = .ok (.aload_n 0, 1) := by decide +kernel
theorem dCp_run_41 : decode cCp_run 41 = .ok (.iconst 0, 1) := by decide +kernel
theorem dCp_run_42 : decode cCp_run 42 = .ok (.putfield 30, 3) := by decide +kernel
theorem dCp_run_45 : decode cCp_run 45 = .ok (.aload_n 0, 1) := by decide +kernel
theorem dCp_run_46 : decode cCp_run 46 = .ok (.iconst 0, 1) := by decide +kernel
theorem dCp_run_47 : decode cCp_run 47 = .ok (.putfield 34, 3) := by decide +kernel
theorem dCp_run_50 : decode cCp_run 50 = .ok (.iconst 0, 1) := by decide +kernel
theorem dCp_run_51 : decode cCp_run 51 = .ok (.istore_n 2, 1) := by decide +kernel
theorem dCp_run_52 : decode cCp_run 52 = .ok (.iload_n 2, 1) := by decide +kernel
theorem dCp_run_53 : decode cCp_run 53 = .ok (.iload_n 1, 1) := by decide +kernel
theorem dCp_run_54 : decode cCp_run 54 = .ok (.if_icmp .ge 52, 3) := by decide +kernel
theorem dCp_run_57 : decode cCp_run 57 = .ok (.aload_n 0, 1) := by decide +kernel
theorem dCp_run_58 : decode cCp_run 58 = .ok (.getfield 26, 3) := by decide +kernel
theorem dCp_run_61 : decode cCp_run 61 = .ok (.aload_n 0, 1) := by decide +kernel
theorem dCp_run_62 : decode cCp_run 62 = .ok (.getfield 19, 3) := by decide +kernel
theorem dCp_run_65 : decode cCp_run 65 = .ok (.aload_n 0, 1) := by decide +kernel
theorem dCp_run_66 : decode cCp_run 66 = .ok (.getfield 30, 3) := by decide +kernel
theorem dCp_run_69 : decode cCp_run 69 = .ok (.invokevirtual 114, 3) := by decide +kernel
theorem dCp_run_72 : decode cCp_run 72 = .ok (.istore_n 3, 1) := by decide +kernel
theorem dCp_run_73 : decode cCp_run 73 = .ok (.iload_n 3, 1) := by decide +kernel
theorem dCp_run_74 : decode cCp_run 74 = .ok (.bipush (-2), 2) := by decide +kernel
theorem dCp_run_76 : decode cCp_run 76 = .ok (.if_icmp .ne 5, 3) := by decide +kernel
theorem dCp_run_79 : decode cCp_run 79 = .ok (.iconst 2, 1) := by decide +kernel
theorem dCp_run_80 : decode cCp_run 80 = .ok (.ireturn, 1) := by decide +kernel
theorem dCp_run_81 : decode cCp_run 81 = .ok (.aload_n 0, 1) := by decide +kernel
theorem dCp_run_82 : decode cCp_run 82 = .ok (.iload_n 2, 1) := by decide +kernel
theorem dCp_run_83 : decode cCp_run 83 = .ok (.iconst 1, 1) := by decide +kernel
theorem dCp_run_84 : decode cCp_run 84 = .ok (.iadd, 1) := by decide +kernel
theorem dCp_run_85 : decode cCp_run 85 = .ok (.putfield 34, 3) := by decide +kernel
theorem dCp_run_88 : decode cCp_run 88 = .ok (.iload_n 3, 1) := by decide +kernel
theorem dCp_run_89 : decode cCp_run 89 = .ok (.iconst (-1), 1) := by decide +kernel
theorem dCp_run_90 : decode cCp_run 90 = .ok (.if_icmp .ne 5, 3) := by decide +kernel
theorem dCp_run_93 : decode cCp_run 93 = .ok (.iconst 0, 1) := by decide +kernel
theorem dCp_run_94 : decode cCp_run 94 = .ok (.ireturn, 1) := by decide +kernel
theorem dCp_run_95 : decode cCp_run 95 = .ok (.aload_n 0, 1) := by decide +kernel
theorem dCp_run_96 : decode cCp_run 96 = .ok (.iload_n 3, 1) := by decide +kernel
theorem dCp_run_97 : decode cCp_run 97 = .ok (.putfield 30, 3) := by decide +kernel
theorem dCp_run_100 : decode cCp_run 100 = .ok (.iinc 2 1, 3) := by decide +kernel
theorem dCp_run_103 : decode cCp_run 103 = .ok (.goto (-51), 3) := by decide +kernel
theorem dCp_run_106 : decode cCp_run 106 = .ok (.iconst 1, 1) := by decide +kernel
theorem dCp_run_107 : decode cCp_run 107 = .ok (.ireturn, 1) := by decide +kernel
theorem dCp_place_0 : decode cCp_place 0 = .ok (.aload_n 0, 1) := by decide +kernel
theorem dCp_place_1 : decode cCp_place 1 = .ok (.getfield 30, 3) := by decide +kernel
theorem dCp_place_4 : decode cCp_place 4 = .ok (.ireturn, 1) := by decide +kernel
theorem dCp_steps_0 : decode cCp_steps 0 = .ok (.aload_n 0, 1) := by decide +kernel
theorem dCp_steps_1 : decode cCp_steps 1 = .ok (.getfield 34, 3) := by decide +kernel
theorem dCp_steps_4 : decode cCp_steps 4 = .ok (.ireturn, 1) := by decide +kernel
