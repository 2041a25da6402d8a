theorem dMo_thrown_0 : decode cMo_thrown 0 = .ok (.aload_n 0, 1) := by decide +kernel
theorem dMo_thrown_1 : decode cMo_thrown 1 = .ok (.getfield 28, 3) := by decide +kernel
theorem dMo_thrown_4 : decode cMo_thrown 4 = .ok (.ireturn, 1) := by decide +kernel
theorem dMo_number_0 : decode cMo_number 0 = .ok (.iconst 0, 1) := by decide +kernel
theorem dMo_number_1 : decode cMo_number 1 = .ok (.istore_n 3, 1) := by decide +kernel
theorem dMo_number_2 : decode cMo_number 2 = .ok (.iload_n 2, 1) := by decide +kernel
theorem dMo_number_3 : decode cMo_number 3 = .ok (.iconst 1, 1) := by decide +kernel
theorem dMo_number_4 : decode cMo_number 4 = .ok (.isub, 1) := by decide +kernel
theorem dMo_number_5 : decode cMo_number 5 = .ok (.istore 4, 2) := by decide +kernel
theorem dMo_number_7 : decode cMo_number 7 = .ok (.iload 4, 2) := by decide +kernel
theorem dMo_number_9 : decode cMo_number 9 = .ok (.ifCond .lt 21, 3) := by decide +kernel
theorem dMo_number_12 : decode cMo_number 12 = .ok (.iload_n 3, 1) := by decide +kernel
theorem dMo_number_13 : decode cMo_number 13 = .ok (.bipush 8, 2) := by decide +kernel
theorem dMo_number_15 : decode cMo_number 15 = .ok (.ishl, 1) := by decide +kernel
theorem dMo_number_16 : decode cMo_number 16 = .ok (.aload_n 0, 1) := by decide +kernel
theorem dMo_number_17 : decode cMo_number 17 = .ok (.iload_n 1, 1) := by decide +kernel
theorem dMo_number_18 : decode cMo_number 18 = .ok (.iload 4, 2) := by decide +kernel
theorem dMo_number_20 : decode cMo_number 20 = .ok (.iadd, 1) := by decide +kernel
theorem dMo_number_21 : decode cMo_number 21 = .ok (.iaload, 1) := by decide +kernel
theorem dMo_number_22 : decode cMo_number 22 = .ok (.ior, 1) := by decide +kernel
theorem dMo_number_23 : decode cMo_number 23 = .ok (.istore_n 3, 1) := by decide +kernel
theorem dMo_number_24 : decode cMo_number 24 = .ok (.iinc 4 (-1), 3) := by decide +kernel
theorem dMo_number_27 : decode cMo_number 27 = .ok (.goto (-20), 3) := by decide +kernel
theorem dMo_number_30 : decode cMo_number 30 = .ok (.iload_n 3, 1) := by decide +kernel
theorem dMo_number_31 : decode cMo_number 31 = .ok (.ireturn, 1) := by decide +kernel
theorem dMo_take_0 : decode cMo_take 0 = .ok (.aload_n 0, 1) := by decide +kernel
theorem dMo_take_1 : decode cMo_take 1 = .ok (.aload_n 1, 1) := by decide +kernel
theorem dMo_take_2 : decode cMo_take 2 = .ok (.bipush 8, 2) := by decide +kernel
theorem dMo_take_4 : decode cMo_take 4 = .ok (.iload_n 2, 1) := by decide +kernel
theorem dMo_take_5 : decode cMo_take 5 = .ok (.imul, 1) := by decide +kernel
theorem dMo_take_6 : decode cMo_take 6 = .ok (.iaload, 1) := by decide +kernel
theorem dMo_take_7 : decode cMo_take 7 = .ok (.putfield 34, 3) := by decide +kernel
theorem dMo_take_10 : decode cMo_take 10 = .ok (.aload_n 0, 1) := by decide +kernel
theorem dMo_take_11 : decode cMo_take 11 = .ok (.aload_n 1, 1) := by decide +kernel
theorem dMo_take_12 : decode cMo_take 12 = .ok (.bipush 8, 2) := by decide +kernel
theorem dMo_take_14 : decode cMo_take 14 = .ok (.iload_n 2, 1) := by decide +kernel
theorem dMo_take_15 : decode cMo_take 15 = .ok (.imul, 1) := by decide +kernel
theorem dMo_take_16 : decode cMo_take 16 = .ok (.iconst 1, 1) := by decide +kernel
theorem dMo_take_17 : decode cMo_take 17 = .ok (.iadd, 1) := by decide +kernel
theorem dMo_take_18 : decode cMo_take 18 = .ok (.iaload, 1) := by decide +kernel
theorem dMo_take_19 : decode cMo_take 19 = .ok (.bipush 15, 2) := by decide +kernel
theorem dMo_take_21 : decode cMo_take 21 = .ok (.iand, 1) := by decide +kernel
theorem dMo_take_22 : decode cMo_take 22 = .ok (.putfield 37, 3) := by decide +kernel
theorem dMo_take_25 : decode cMo_take 25 = .ok (.aload_n 0, 1) := by decide +kernel
theorem dMo_take_26 : decode cMo_take 26 = .ok (.aload_n 1, 1) := by decide +kernel
theorem dMo_take_27 : decode cMo_take 27 = .ok (.bipush 8, 2) := by decide +kernel
theorem dMo_take_29 : decode cMo_take 29 = .ok (.iload_n 2, 1) := by decide +kernel
theorem dMo_take_30 : decode cMo_take 30 = .ok (.imul, 1) := by decide +kernel
theorem dMo_take_31 : decode cMo_take 31 = .ok (.iconst 1, 1) := by decide +kernel
theorem dMo_take_32 : decode cMo_take 32 = .ok (.iadd, 1) := by decide +kernel
theorem dMo_take_33 : decode cMo_take 33 = .ok (.iaload, 1) := by decide +kernel
theorem dMo_take_34 : decode cMo_take 34 = .ok (.iconst 4, 1) := by decide +kernel
theorem dMo_take_35 : decode cMo_take 35 = .ok (.ishr, 1) := by decide +kernel
theorem dMo_take_36 : decode cMo_take 36 = .ok (.putfield 40, 3) := by decide +kernel
theorem dMo_take_39 : decode cMo_take 39 = .ok (.aload_n 0, 1) := by decide +kernel
theorem dMo_take_40 : decode cMo_take 40 = .ok (.aload_n 1, 1) := by decide +kernel
theorem dMo_take_41 : decode cMo_take 41 = .ok (.bipush 8, 2) := by decide +kernel
theorem dMo_take_43 : decode cMo_take 43 = .ok (.iload_n 2, 1) := by decide +kernel
theorem dMo_take_44 : decode cMo_take 44 = .ok (.imul, 1) := by decide +kernel
theorem dMo_take_45 : decode cMo_take 45 = .ok (.iconst 2, 1) := by decide +kernel
theorem dMo_take_46 : decode cMo_take 46 = .ok (.iadd, 1) := by decide +kernel
theorem dMo_take_47 : decode cMo_take 47 = .ok (.iconst 2, 1) := by decide +kernel
theorem dMo_take_48 : decode cMo_take 48 = .ok (.invokestatic 43, 3) := by decide +kernel
theorem dMo_take_51 : decode cMo_take 51 = .ok (.i2s, 1) := by decide +kernel
theorem dMo_take_52 : decode cMo_take 52 = .ok (.putfield 47, 3) := by decide +kernel
theorem dMo_take_55 : decode cMo_take 55 = .ok (.aload_n 0, 1) := by decide +kernel
theorem dMo_take_56 : decode cMo_take 56 = .ok (.aload_n 1, 1) := by decide +kernel
theorem dMo_take_57 : decode cMo_take 57 = .ok (.bipush 8, 2) := by decide +kernel
theorem dMo_take_59 : decode cMo_take 59 = .ok (.iload_n 2, 1) := by decide +kernel
theorem dMo_take_60 : decode cMo_take 60 = .ok (.imul, 1) := by decide +kernel
theorem dMo_take_61 : decode cMo_take 61 = .ok (.iconst 4, 1) := by decide +kernel
theorem dMo_take_62 : decode cMo_take 62 = .ok (.iadd, 1) := by decide +kernel
theorem dMo_take_63 : decode cMo_take 63 = .ok (.iconst 4, 1) := by decide +kernel
theorem dMo_take_64 : decode cMo_take 64 = .ok (.invokestatic 43, 3) := by decide +kernel
theorem dMo_take_67 : decode cMo_take 67 = .ok (.putfield 50, 3) := by decide +kernel
theorem dMo_take_70 : decode cMo_take 70 = .ok (.return_, 1) := by decide +kernel
theorem dMo_kind_0 : decode cMo_kind 0 = .ok (.aload_n 0, 1) := by decide +kernel
theorem dMo_kind_1 : decode cMo_kind 1 = .ok (.getfield 34, 3) := by decide +kernel
theorem dMo_kind_4 : decode cMo_kind 4 = .ok (.bipush 7, 2) := by decide +kernel
theorem dMo_kind_6 : decode cMo_kind 6 = .ok (.iand, 1) := by decide +kernel
theorem dMo_kind_7 : decode cMo_kind 7 = .ok (.ireturn, 1) := by decide +kernel
theorem dMo_n_0 : decode cMo_n 0 = .ok (.aload_n 0, 1) := by decide +kernel
theorem dMo_n_1 : decode cMo_n 1 = .ok (.getfield 34, 3) := by decide +kernel
theorem dMo_n_4 : decode cMo_n 4 = .ok (.iconst 4, 1) := by decide +kernel
theorem dMo_n_5 : decode cMo_n 5 = .ok (.ishr, 1) := by decide +kernel
theorem dMo_n_6 : decode cMo_n 6 = .ok (.ireturn, 1) := by decide +kernel
theorem dMo_bit3_0 : decode cMo_bit3 0 = .ok (.aload_n 0, 1) := by decide +kernel
theorem dMo_bit3_1 : decode cMo_bit3 1 = .ok (.getfield 34, 3) := by decide +kernel
theorem dMo_bit3_4 : decode cMo_bit3 4 = .ok (.iconst 3, 1) := by decide +kernel
theorem dMo_bit3_5 : decode cMo_bit3 5 = .ok (.ishr, 1) := by decide +kernel
theorem dMo_bit3_6 : decode cMo_bit3 6 = .ok (.iconst 1, 1) := by decide +kernel
theorem dMo_bit3_7 : decode cMo_bit3 7 = .ok (.iand, 1) := by decide +kernel
theorem dMo_bit3_8 : decode cMo_bit3 8 = .ok (.iconst 1, 1) := by decide +kernel
theorem dMo_bit3_9 : decode cMo_bit3 9 = .ok (.if_icmp .ne 7, 3) := by decide +kernel
theorem dMo_bit3_12 : decode cMo_bit3 12 = .ok (.iconst 1, 1) := by decide +kernel
theorem dMo_bit3_13 : decode cMo_bit3 13 = .ok (.goto 4, 3) := by decide +kernel
theorem dMo_bit3_16 : decode cMo_bit3 16 = .ok (.iconst 0, 1) := by decide +kernel
theorem dMo_bit3_17 : decode cMo_bit3 17 = .ok (.ireturn, 1) := by decide +kernel
