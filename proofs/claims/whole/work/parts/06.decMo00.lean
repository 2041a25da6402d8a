theorem dMo_init_0 : decode cMo_init 0 = .ok (.aload_n 0, 1) := by decide +kernel
theorem dMo_init_1 : decode cMo_init 1 = .ok (.invokespecial 1, 3) := by decide +kernel
theorem dMo_init_4 : decode cMo_init 4 = .ok (.aload_n 0, 1) := by decide +kernel
theorem dMo_init_5 : decode cMo_init 5 = .ok (.ldc 7, 2) := by decide +kernel
theorem dMo_init_7 : decode cMo_init 7 = .ok (.newarray .int, 2) := by decide +kernel
theorem dMo_init_9 : decode cMo_init 9 = .ok (.putfield 8, 3) := by decide +kernel
theorem dMo_init_12 : decode cMo_init 12 = .ok (.aload_n 0, 1) := by decide +kernel
theorem dMo_init_13 : decode cMo_init 13 = .ok (.ldc 7, 2) := by decide +kernel
theorem dMo_init_15 : decode cMo_init 15 = .ok (.newarray .int, 2) := by decide +kernel
theorem dMo_init_17 : decode cMo_init 17 = .ok (.putfield 14, 3) := by decide +kernel
theorem dMo_init_20 : decode cMo_init 20 = .ok (.aload_n 0, 1) := by decide +kernel
theorem dMo_init_21 : decode cMo_init 21 = .ok (.bipush 11, 2) := by decide +kernel
theorem dMo_init_23 : decode cMo_init 23 = .ok (.newarray .long, 2) := by decide +kernel
theorem dMo_init_25 : decode cMo_init 25 = .ok (.putfield 17, 3) := by decide +kernel
theorem dMo_init_28 : decode cMo_init 28 = .ok (.aload_n 0, 1) := by decide +kernel
theorem dMo_init_29 : decode cMo_init 29 = .ok (.sipush 4096, 3) := by decide +kernel
theorem dMo_init_32 : decode cMo_init 32 = .ok (.newarray .int, 2) := by decide +kernel
theorem dMo_init_34 : decode cMo_init 34 = .ok (.putfield 21, 3) := by decide +kernel
theorem dMo_init_37 : decode cMo_init 37 = .ok (.aload_n 0, 1) := by decide +kernel
theorem dMo_init_38 : decode cMo_init 38 = .ok (.iconst (-1), 1) := by decide +kernel
theorem dMo_init_39 : decode cMo_init 39 = .ok (.putfield 24, 3) := by decide +kernel
theorem dMo_init_42 : decode cMo_init 42 = .ok (.return_, 1) := by decide +kernel
theorem dMo_thrown_0 : decode cMo_thrown 0 = .ok (.aload_n 0, 1) := by decide +kernel
theorem dMo_thrown_1 : decode cMo_thrown 1 = .ok (.getfield 28, 3) := by decide +kernel
theorem dMo_thrown_4 : decode cMo_thrown 4 = .ok (.ireturn, 1) := by decide +kernel
theorem dMo_feed_0 : decode cMo_feed 0 = .ok (.aload_n 0, 1) := by decide +kernel
theorem dMo_feed_1 : decode cMo_feed 1 = .ok (.aload_n 0, 1) := by decide +kernel
theorem dMo_feed_2 : decode cMo_feed 2 = .ok (.getfield 31, 3) := by decide +kernel
theorem dMo_feed_5 : decode cMo_feed 5 = .ok (.bipush 20, 2) := by decide +kernel
theorem dMo_feed_7 : decode cMo_feed 7 = .ok (.iadd, 1) := by decide +kernel
theorem dMo_feed_8 : decode cMo_feed 8 = .ok (.ldc 7, 2) := by decide +kernel
theorem dMo_feed_10 : decode cMo_feed 10 = .ok (.if_icmp .le 7, 3) := by decide +kernel
theorem dMo_feed_13 : decode cMo_feed 13 = .ok (.iconst 1, 1) := by decide +kernel
theorem dMo_feed_14 : decode cMo_feed 14 = .ok (.goto 4, 3) := by decide +kernel
theorem dMo_feed_17 : decode cMo_feed 17 = .ok (.iconst 0, 1) := by decide +kernel
theorem dMo_feed_18 : decode cMo_feed 18 = .ok (.putfield 28, 3) := by decide +kernel
theorem dMo_feed_21 : decode cMo_feed 21 = .ok (.aload_n 0, 1) := by decide +kernel
theorem dMo_feed_22 : decode cMo_feed 22 = .ok (.getfield 28, 3) := by decide +kernel
theorem dMo_feed_25 : decode cMo_feed 25 = .ok (.ifCond .le 5, 3) := by decide +kernel
theorem dMo_feed_28 : decode cMo_feed 28 = .ok (.iconst 0, 1) := by decide +kernel
theorem dMo_feed_29 : decode cMo_feed 29 = .ok (.ireturn, 1) := by decide +kernel
theorem dMo_feed_30 : decode cMo_feed 30 = .ok (.iconst 0, 1) := by decide +kernel
theorem dMo_feed_31 : decode cMo_feed 31 = .ok (.istore 6, 2) := by decide +kernel
theorem dMo_feed_33 : decode cMo_feed 33 = .ok (.iload 6, 2) := by decide +kernel
theorem dMo_feed_35 : decode cMo_feed 35 = .ok (.bipush 20, 2) := by decide +kernel
theorem dMo_feed_37 : decode cMo_feed 37 = .ok (.if_icmp .ge 93, 3) := by decide +kernel
theorem dMo_feed_40 : decode cMo_feed 40 = .ok (.iload 6, 2) := by decide +kernel
theorem dMo_feed_42 : decode cMo_feed 42 = .ok (.iconst 4, 1) := by decide +kernel
theorem dMo_feed_43 : decode cMo_feed 43 = .ok (.if_icmp .ge 7, 3) := by decide +kernel
theorem dMo_feed_46 : decode cMo_feed 46 = .ok (.iload_n 1, 1) := by decide +kernel
theorem dMo_feed_47 : decode cMo_feed 47 = .ok (.goto 39, 3) := by decide +kernel
theorem dMo_feed_50 : decode cMo_feed 50 = .ok (.iload 6, 2) := by decide +kernel
theorem dMo_feed_52 : decode cMo_feed 52 = .ok (.bipush 8, 2) := by decide +kernel
theorem dMo_feed_54 : decode cMo_feed 54 = .ok (.if_icmp .ge 7, 3) := by decide +kernel
theorem dMo_feed_57 : decode cMo_feed 57 = .ok (.iload_n 2, 1) := by decide +kernel
theorem dMo_feed_58 : decode cMo_feed 58 = .ok (.goto 28, 3) := by decide +kernel
theorem dMo_feed_61 : decode cMo_feed 61 = .ok (.iload 6, 2) := by decide +kernel
theorem dMo_feed_63 : decode cMo_feed 63 = .ok (.bipush 12, 2) := by decide +kernel
theorem dMo_feed_65 : decode cMo_feed 65 = .ok (.if_icmp .ge 7, 3) := by decide +kernel
theorem dMo_feed_68 : decode cMo_feed 68 = .ok (.iload_n 3, 1) := by decide +kernel
theorem dMo_feed_69 : decode cMo_feed 69 = .ok (.goto 17, 3) := by decide +kernel
theorem dMo_feed_72 : decode cMo_feed 72 = .ok (.iload 6, 2) := by decide +kernel
theorem dMo_feed_74 : decode cMo_feed 74 = .ok (.bipush 16, 2) := by decide +kernel
theorem dMo_feed_76 : decode cMo_feed 76 = .ok (.if_icmp .ge 8, 3) := by decide +kernel
theorem dMo_feed_79 : decode cMo_feed 79 = .ok (.iload 4, 2) := by decide +kernel
theorem dMo_feed_81 : decode cMo_feed 81 = .ok (.goto 5, 3) := by decide +kernel
theorem dMo_feed_84 : decode cMo_feed 84 = .ok (.iload 5, 2) := by decide +kernel
theorem dMo_feed_86 : decode cMo_feed 86 = .ok (.istore 7, 2) := by decide +kernel
theorem dMo_feed_88 : decode cMo_feed 88 = .ok (.aload_n 0, 1) := by decide +kernel
theorem dMo_feed_89 : decode cMo_feed 89 = .ok (.getfield 8, 3) := by decide +kernel
theorem dMo_feed_92 : decode cMo_feed 92 = .ok (.aload_n 0, 1) := by decide +kernel
theorem dMo_feed_93 : decode cMo_feed 93 = .ok (.getfield 31, 3) := by decide +kernel
theorem dMo_feed_96 : decode cMo_feed 96 = .ok (.iload 7, 2) := by decide +kernel
theorem dMo_feed_98 : decode cMo_feed 98 = .ok (.bipush 24, 2) := by decide +kernel
theorem dMo_feed_100 : decode cMo_feed 100 = .ok (.bipush 8, 2) := by decide +kernel
theorem dMo_feed_102 : decode cMo_feed 102 = .ok (.iload 6, 2) := by decide +kernel
theorem dMo_feed_104 : decode cMo_feed 104 = .ok (.iconst 4, 1) := by decide +kernel
theorem dMo_feed_105 : decode cMo_feed 105 = .ok (.irem, 1) := by decide +kernel
theorem dMo_feed_106 : decode cMo_feed 106 = .ok (.imul, 1) := by decide +kernel
theorem dMo_feed_107 : decode cMo_feed 107 = .ok (.isub, 1) := by decide +kernel
theorem dMo_feed_108 : decode cMo_feed 108 = .ok (.ishr, 1) := by decide +kernel
theorem dMo_feed_109 : decode cMo_feed 109 = .ok (.sipush 255, 3) := by decide +kernel
theorem dMo_feed_112 : decode cMo_feed 112 = .ok (.iand, 1) := by decide +kernel
theorem dMo_feed_113 : decode cMo_feed 113 = .ok (.iastore, 1) := by decide +kernel
theorem dMo_feed_114 : decode cMo_feed 114 = .ok (.aload_n 0, 1) := by decide +kernel
theorem dMo_feed_115 : decode cMo_feed 115 = .ok (.dup, 1) := by decide +kernel
theorem dMo_feed_116 : decode cMo_feed 116 = .ok (.getfield 31, 3) := by decide +kernel
theorem dMo_feed_119 : decode cMo_feed 119 = .ok (.iconst 1, 1) := by decide +kernel
theorem dMo_feed_120 : decode cMo_feed 120 = .ok (.iadd, 1) := by decide +kernel
theorem dMo_feed_121 : decode cMo_feed 121 = .ok (.putfield 31, 3) := by decide +kernel
theorem dMo_feed_124 : decode cMo_feed 124 = .ok (.iinc 6 1, 3) := by decide +kernel
theorem dMo_feed_127 : decode cMo_feed 127 = .ok (.goto (-94), 3) := by decide +kernel
theorem dMo_feed_130 : decode cMo_feed 130 = .ok (.aload_n 0, 1) := by decide +kernel
theorem dMo_feed_131 : decode cMo_feed 131 = .ok (.getfield 31, 3) := by decide +kernel
theorem dMo_feed_134 : decode cMo_feed 134 = .ok (.ireturn, 1) := by decide +kernel
theorem dMo_end_0 : decode cMo_end 0 = .ok (.aload_n 0, 1) := by decide +kernel
theorem dMo_end_1 : decode cMo_end 1 = .ok (.iload_n 1, 1) := by decide +kernel
theorem dMo_end_2 : decode cMo_end 2 = .ok (.ifCond .lt 11, 3) := by decide +kernel
theorem dMo_end_5 : decode cMo_end 5 = .ok (.iload_n 1, 1) := by decide +kernel
theorem dMo_end_6 : decode cMo_end 6 = .ok (.aload_n 0, 1) := by decide +kernel
theorem dMo_end_7 : decode cMo_end 7 = .ok (.getfield 31, 3) := by decide +kernel
theorem dMo_end_10 : decode cMo_end 10 = .ok (.if_icmp .le 7, 3) := by decide +kernel
theorem dMo_end_13 : decode cMo_end 13 = .ok (.iconst 1, 1) := by decide +kernel
theorem dMo_end_14 : decode cMo_end 14 = .ok (.goto 4, 3) := by decide +kernel
theorem dMo_end_17 : decode cMo_end 17 = .ok (.iconst 0, 1) := by decide +kernel
theorem dMo_end_18 : decode cMo_end 18 = .ok (.putfield 28, 3) := by decide +kernel
theorem dMo_end_21 : decode cMo_end 21 = .ok (.aload_n 0, 1) := by decide +kernel
theorem dMo_end_22 : decode cMo_end 22 = .ok (.aload_n 0, 1) := by decide +kernel
theorem dMo_end_23 : decode cMo_end 23 = .ok (.getfield 28, 3) := by decide +kernel
theorem dMo_end_26 : decode cMo_end 26 = .ok (.ifCond .le 10, 3) := by decide +kernel
theorem dMo_end_29 : decode cMo_end 29 = .ok (.aload_n 0, 1) := by decide +kernel
theorem dMo_end_30 : decode cMo_end 30 = .ok (.getfield 31, 3) := by decide +kernel
theorem dMo_end_33 : decode cMo_end 33 = .ok (.goto 4, 3) := by decide +kernel
theorem dMo_end_36 : decode cMo_end 36 = .ok (.iload_n 1, 1) := by decide +kernel
theorem dMo_end_37 : decode cMo_end 37 = .ok (.putfield 31, 3) := by decide +kernel
theorem dMo_end_40 : decode cMo_end 40 = .ok (.return_, 1) := by decide +kernel
theorem dMo_number_0 : decode cMo_number 0 = .ok (.iconst 0, 1) := by decide +kernel
theorem dMo_number_1 : decode cMo_number 1 = .ok (.istore_n 3, 1) := by decide +kernel
theorem dMo_number_2 : decode cMo_number 2 = .ok (.iload_n 2, 1) := by decide +kernel
theorem dMo_number_3 : decode cMo_number 3 = .ok (.iconst 1, 1) := by decide +kernel
theorem dMo_number_4 : decode cMo_number 4 = .ok (.isub, 1) := by decide +kernel
theorem dMo_number_5 : decode cMo_number 5 = .ok (.istore 4, 2) := by decide +kernel
theorem dMo_number_7 : decode cMo_number 7 = .ok (.iload 4, 2) := by decide +kernel
theorem dMo_number_9 : decode cMo_number 9 = .ok (.ifCond .lt 21, 3) := by decide +kernel
theorem dMo_number_12 : decode cMo_number 12 = .ok (.iload_n 3, 1) := by decide +kernel
theorem dMo_number_13 : decode cMo_number 13 = .ok (.bipush 8, 2) := by decide +kernel
theorem dMo_number_15 : decode cMo_number 15 = .ok (.ishl, 1) := by decide +kernel
theorem dMo_number_16 : decode cMo_number 16 = .ok (.aload_n 0, 1) := by decide +kernel
theorem dMo_number_17 : decode cMo_number 17 = .ok (.iload_n 1, 1) := by decide +kernel
theorem dMo_number_18 : decode cMo_number 18 = .ok (.iload 4, 2) := by decide +kernel
theorem dMo_number_20 : decode cMo_number 20 = .ok (.iadd, 1) := by decide +kernel
theorem dMo_number_21 : decode cMo_number 21 = .ok (.iaload, 1) := by decide +kernel
theorem dMo_number_22 : decode cMo_number 22 = .ok (.ior, 1) := by decide +kernel
theorem dMo_number_23 : decode cMo_number 23 = .ok (.istore_n 3, 1) := by decide +kernel
theorem dMo_number_24 : decode cMo_number 24 = .ok (.iinc 4 (-1), 3) := by decide +kernel
theorem dMo_number_27 : decode cMo_number 27 = .ok (.goto (-20), 3) := by decide +kernel
theorem dMo_number_30 : decode cMo_number 30 = .ok (.iload_n 3, 1) := by decide +kernel
theorem dMo_number_31 : decode cMo_number 31 = .ok (.ireturn, 1) := by decide +kernel
theorem dMo_take_0 : decode cMo_take 0 = .ok (.aload_n 0, 1) := by decide +kernel
theorem dMo_take_1 : decode cMo_take 1 = .ok (.aload_n 1, 1) := by decide +kernel
theorem dMo_take_2 : decode cMo_take 2 = .ok (.bipush 8, 2) := by decide +kernel
theorem dMo_take_4 : decode cMo_take 4 = .ok (.iload_n 2, 1) := by decide +kernel
theorem dMo_take_5 : decode cMo_take 5 = .ok (.imul, 1) := by decide +kernel
theorem dMo_take_6 : decode cMo_take 6 = .ok (.iaload, 1) := by decide +kernel
theorem dMo_take_7 : decode cMo_take 7 = .ok (.putfield 34, 3) := by decide +kernel
theorem dMo_take_10 : decode cMo_take 10 = .ok (.aload_n 0, 1) := by decide +kernel
theorem dMo_take_11 : decode cMo_take 11 = .ok (.aload_n 1, 1) := by decide +kernel
theorem dMo_take_12 : decode cMo_take 12 = .ok (.bipush 8, 2) := by decide +kernel
theorem dMo_take_14 : decode cMo_take 14 = .ok (.iload_n 2, 1) := by decide +kernel
theorem dMo_take_15 : decode cMo_take 15 = .ok (.imul, 1) := by decide +kernel
theorem dMo_take_16 : decode cMo_take 16 = .ok (.iconst 1, 1) := by decide +kernel
theorem dMo_take_17 : decode cMo_take 17 = .ok (.iadd, 1) := by decide +kernel
theorem dMo_take_18 : decode cMo_take 18 = .ok (.iaload, 1) := by decide +kernel
theorem dMo_take_19 : decode cMo_take 19 = .ok (.bipush 15, 2) := by decide +kernel
theorem dMo_take_21 : decode cMo_take 21 = .ok (.iand, 1) := by decide +kernel
theorem dMo_take_22 : decode cMo_take 22 = .ok (.putfield 37, 3) := by decide +kernel
theorem dMo_take_25 : decode cMo_take 25 = .ok (.aload_n 0, 1) := by decide +kernel
theorem dMo_take_26 : decode cMo_take 26 = .ok (.aload_n 1, 1) := by decide +kernel
theorem dMo_take_27 : decode cMo_take 27 = .ok (.bipush 8, 2) := by decide +kernel
theorem dMo_take_29 : decode cMo_take 29 = .ok (.iload_n 2, 1) := by decide +kernel
theorem dMo_take_30 : decode cMo_take 30 = .ok (.imul, 1) := by decide +kernel
theorem dMo_take_31 : decode cMo_take 31 = .ok (.iconst 1, 1) := by decide +kernel
theorem dMo_take_32 : decode cMo_take 32 = .ok (.iadd, 1) := by decide +kernel
theorem dMo_take_33 : decode cMo_take 33 = .ok (.iaload, 1) := by decide +kernel
theorem dMo_take_34 : decode cMo_take 34 = .ok (.iconst 4, 1) := by decide +kernel
theorem dMo_take_35 : decode cMo_take 35 = .ok (.ishr, 1) := by decide +kernel
theorem dMo_take_36 : decode cMo_take 36 = .ok (.putfield 40, 3) := by decide +kernel
theorem dMo_take_39 : decode cMo_take 39 = .ok (.aload_n 0, 1) := by decide +kernel
theorem dMo_take_40 : decode cMo_take 40 = .ok (.aload_n 1, 1) := by decide +kernel
theorem dMo_take_41 : decode cMo_take 41 = .ok (.bipush 8, 2) := by decide +kernel
theorem dMo_take_43 : decode cMo_take 43 = .ok (.iload_n 2, 1) := by decide +kernel
theorem dMo_take_44 : decode cMo_take 44 = .ok (.imul, 1) := by decide +kernel
theorem dMo_take_45 : decode cMo_take 45 = .ok (.iconst 2, 1) := by decide +kernel
theorem dMo_take_46 : decode cMo_take 46 = .ok (.iadd, 1) := by decide +kernel
theorem dMo_take_47 : decode cMo_take 47 = .ok (.iconst 2, 1) := by decide +kernel
theorem dMo_take_48 : decode cMo_take 48 = .ok (.invokestatic 43, 3) := by decide +kernel
theorem dMo_take_51 : decode cMo_take 51 = .ok (.i2s, 1) := by decide +kernel
theorem dMo_take_52 : decode cMo_take 52 = .ok (.putfield 47, 3) := by decide +kernel
theorem dMo_take_55 : decode cMo_take 55 = .ok (.aload_n 0, 1) := by decide +kernel
theorem dMo_take_56 : decode cMo_take 56 = .ok (.aload_n 1, 1) := by decide +kernel
theorem dMo_take_57 : decode cMo_take 57 = .ok (.bipush 8, 2) := by decide +kernel
theorem dMo_take_59 : decode cMo_take 59 = .ok (.iload_n 2, 1) := by decide +kernel
theorem dMo_take_60 : decode cMo_take 60 = .ok (.imul, 1) := by decide +kernel
theorem dMo_take_61 : decode cMo_take 61 = .ok (.iconst 4, 1) := by decide +kernel
theorem dMo_take_62 : decode cMo_take 62 = .ok (.iadd, 1) := by decide +kernel
theorem dMo_take_63 : decode cMo_take 63 = .ok (.iconst 4, 1) := by decide +kernel
theorem dMo_take_64 : decode cMo_take 64 = .ok (.invokestatic 43, 3) := by decide +kernel
theorem dMo_take_67 : decode cMo_take 67 = .ok (.putfield 50, 3) := by decide +kernel
theorem dMo_take_70 : decode cMo_take 70 = .ok (.return_, 1) := by decide +kernel
