theorem dTa_init_0 : decode cTa_init 0 = .ok (.aload_n 0, 1) := by decide +kernel
theorem dTa_init_1 : decode cTa_init 1 = .ok (.invokespecial 1, 3) := by decide +kernel
theorem dTa_init_4 : decode cTa_init 4 = .ok (.aload_n 0, 1) := by decide +kernel
theorem dTa_init_5 : decode cTa_init 5 = .ok (.sipush 512, 3) := by decide +kernel
theorem dTa_init_8 : decode cTa_init 8 = .ok (.newarray .byte, 2) := by decide +kernel
theorem dTa_init_10 : decode cTa_init 10 = .ok (.putfield 7, 3) := by decide +kernel
theorem dTa_init_13 : decode cTa_init 13 = .ok (.aload_n 0, 1) := by decide +kernel
theorem dTa_init_14 : decode cTa_init 14 = .ok (.iconst 0, 1) := by decide +kernel
theorem dTa_init_15 : decode cTa_init 15 = .ok (.putfield 13, 3) := by decide +kernel
theorem dTa_init_18 : decode cTa_init 18 = .ok (.return_, 1) := by decide +kernel
theorem dTa_hasRoom_0 : decode cTa_hasRoom 0 = .ok (.aload_n 0, 1) := by decide +kernel
theorem dTa_hasRoom_1 : decode cTa_hasRoom 1 = .ok (.getfield 13, 3) := by decide +kernel
theorem dTa_hasRoom_4 : decode cTa_hasRoom 4 = .ok (.bipush 20, 2) := by decide +kernel
theorem dTa_hasRoom_6 : decode cTa_hasRoom 6 = .ok (.iadd, 1) := by decide +kernel
theorem dTa_hasRoom_7 : decode cTa_hasRoom 7 = .ok (.ldc 17, 2) := by decide +kernel
theorem dTa_hasRoom_9 : decode cTa_hasRoom 9 = .ok (.if_icmp .gt 7, 3) := by decide +kernel
theorem dTa_hasRoom_12 : decode cTa_hasRoom 12 = .ok (.iconst 1, 1) := by decide +kernel
theorem dTa_hasRoom_13 : decode cTa_hasRoom 13 = .ok (.goto 4, 3) := by decide +kernel
theorem dTa_hasRoom_16 : decode cTa_hasRoom 16 = .ok (.iconst 0, 1) := by decide +kernel
theorem dTa_hasRoom_17 : decode cTa_hasRoom 17 = .ok (.ireturn, 1) := by decide +kernel
theorem dTa_makeRoom_0 : decode cTa_makeRoom 0 = .ok (.aload_n 0, 1) := by decide +kernel
theorem dTa_makeRoom_1 : decode cTa_makeRoom 1 = .ok (.getfield 13, 3) := by decide +kernel
theorem dTa_makeRoom_4 : decode cTa_makeRoom 4 = .ok (.bipush 20, 2) := by decide +kernel
theorem dTa_makeRoom_6 : decode cTa_makeRoom 6 = .ok (.iadd, 1) := by decide +kernel
theorem dTa_makeRoom_7 : decode cTa_makeRoom 7 = .ok (.aload_n 0, 1) := by decide +kernel
theorem dTa_makeRoom_8 : decode cTa_makeRoom 8 = .ok (.getfield 7, 3) := by decide +kernel
theorem dTa_makeRoom_11 : decode cTa_makeRoom 11 = .ok (.arraylength, 1) := by decide +kernel
theorem dTa_makeRoom_12 : decode cTa_makeRoom 12 = .ok (.if_icmp .le 26, 3) := by decide +kernel
theorem dTa_makeRoom_15 : decode cTa_makeRoom 15 = .ok (.aload_n 0, 1) := by decide +kernel
theorem dTa_makeRoom_16 : decode cTa_makeRoom 16 = .ok (.aload_n 0, 1) := by decide +kernel
theorem dTa_makeRoom_17 : decode cTa_makeRoom 17 = .ok (.getfield 7, 3) := by decide +kernel
theorem dTa_makeRoom_20 : decode cTa_makeRoom 20 = .ok (.ldc 17, 2) := by decide +kernel
theorem dTa_makeRoom_22 : decode cTa_makeRoom 22 = .ok (.iconst 2, 1) := by decide +kernel
theorem dTa_makeRoom_23 : decode cTa_makeRoom 23 = .ok (.aload_n 0, 1) := by decide +kernel
theorem dTa_makeRoom_24 : decode cTa_makeRoom 24 = .ok (.getfield 7, 3) := by decide +kernel
theorem dTa_makeRoom_27 : decode cTa_makeRoom 27 = .ok (.arraylength, 1) := by decide +kernel
theorem dTa_makeRoom_28 : decode cTa_makeRoom 28 = .ok (.imul, 1) := by decide +kernel
theorem dTa_makeRoom_29 : decode cTa_makeRoom 29 = .ok (.invokestatic 18, 3) := by decide +kernel
theorem dTa_makeRoom_32 : decode cTa_makeRoom 32 = .ok (.invokestatic 24, 3) := by decide +kernel
theorem dTa_makeRoom_35 : decode cTa_makeRoom 35 = .ok (.putfield 7, 3) := by decide +kernel
theorem dTa_makeRoom_38 : decode cTa_makeRoom 38 = .ok (.return_, 1) := by decide +kernel
theorem dTa_type_0 : decode cTa_type 0 = .ok (.aload_n 0, 1) := by decide +kernel
theorem dTa_type_1 : decode cTa_type 1 = .ok (.getfield 13, 3) := by decide +kernel
theorem dTa_type_4 : decode cTa_type 4 = .ok (.iconst 4, 1) := by decide +kernel
theorem dTa_type_5 : decode cTa_type 5 = .ok (.iadd, 1) := by decide +kernel
theorem dTa_type_6 : decode cTa_type 6 = .ok (.aload_n 0, 1) := by decide +kernel
theorem dTa_type_7 : decode cTa_type 7 = .ok (.getfield 7, 3) := by decide +kernel
theorem dTa_type_10 : decode cTa_type 10 = .ok (.arraylength, 1) := by decide +kernel
theorem dTa_type_11 : decode cTa_type 11 = .ok (.if_icmp .le 4, 3) := by decide +kernel
theorem dTa_type_14 : decode cTa_type 14 = .ok (.return_, 1) := by decide +kernel
theorem dTa_type_15 : decode cTa_type 15 = .ok (.aload_n 0, 1) := by decide +kernel
theorem dTa_type_16 : decode cTa_type 16 = .ok (.getfield 7, 3) := by decide +kernel
theorem dTa_type_19 : decode cTa_type 19 = .ok (.aload_n 0, 1) := by decide +kernel
theorem dTa_type_20 : decode cTa_type 20 = .ok (.getfield 13, 3) := by decide +kernel
theorem dTa_type_23 : decode cTa_type 23 = .ok (.iload_n 1, 1) := by decide +kernel
theorem dTa_type_24 : decode cTa_type 24 = .ok (.bipush 24, 2) := by decide +kernel
theorem dTa_type_26 : decode cTa_type 26 = .ok (.ishr, 1) := by decide +kernel
theorem dTa_type_27 : decode cTa_type 27 = .ok (.i2b, 1) := by decide +kernel
theorem dTa_type_28 : decode cTa_type 28 = .ok (.bastore, 1) := by decide +kernel
theorem dTa_type_29 : decode cTa_type 29 = .ok (.aload_n 0, 1) := by decide +kernel
theorem dTa_type_30 : decode cTa_type 30 = .ok (.getfield 7, 3) := by decide +kernel
theorem dTa_type_33 : decode cTa_type 33 = .ok (.aload_n 0, 1) := by decide +kernel
theorem dTa_type_34 : decode cTa_type 34 = .ok (.getfield 13, 3) := by decide +kernel
theorem dTa_type_37 : decode cTa_type 37 = .ok (.iconst 1, 1) := by decide +kernel
theorem dTa_type_38 : decode cTa_type 38 = .ok (.iadd, 1) := by decide +kernel
theorem dTa_type_39 : decode cTa_type 39 = .ok (.iload_n 1, 1) := by decide +kernel
theorem dTa_type_40 : decode cTa_type 40 = .ok (.bipush 16, 2) := by decide +kernel
theorem dTa_type_42 : decode cTa_type 42 = .ok (.ishr, 1) := by decide +kernel
theorem dTa_type_43 : decode cTa_type 43 = .ok (.i2b, 1) := by decide +kernel
theorem dTa_type_44 : decode cTa_type 44 = .ok (.bastore, 1) := by decide +kernel
theorem dTa_type_45 : decode cTa_type 45 = .ok (.aload_n 0, 1) := by decide +kernel
theorem dTa_type_46 : decode cTa_type 46 = .ok (.getfield 7, 3) := by decide +kernel
theorem dTa_type_49 : decode cTa_type 49 = .ok (.aload_n 0, 1) := by decide +kernel
theorem dTa_type_50 : decode cTa_type 50 = .ok (.getfield 13, 3) := by decide +kernel
theorem dTa_type_53 : decode cTa_type 53 = .ok (.iconst 2, 1) := by decide +kernel
theorem dTa_type_54 : decode cTa_type 54 = .ok (.iadd, 1) := by decide +kernel
theorem dTa_type_55 : decode cTa_type 55 = .ok (.iload_n 1, 1) := by decide +kernel
theorem dTa_type_56 : decode cTa_type 56 = .ok (.bipush 8, 2) := by decide +kernel
theorem dTa_type_58 : decode cTa_type 58 = .ok (.ishr, 1) := by decide +kernel
theorem dTa_type_59 : decode cTa_type 59 = .ok (.i2b, 1) := by decide +kernel
theorem dTa_type_60 : decode cTa_type 60 = .ok (.bastore, 1) := by decide +kernel
theorem dTa_type_61 : decode cTa_type 61 = .ok (.aload_n 0, 1) := by decide +kernel
theorem dTa_type_62 : decode cTa_type 62 = .ok (.getfield 7, 3) := by decide +kernel
theorem dTa_type_65 : decode cTa_type 65 = .ok (.aload_n 0, 1) := by decide +kernel
theorem dTa_type_66 : decode cTa_type 66 = .ok (.getfield 13, 3) := by decide +kernel
theorem dTa_type_69 : decode cTa_type 69 = .ok (.iconst 3, 1) := by decide +kernel
theorem dTa_type_70 : decode cTa_type 70 = .ok (.iadd, 1) := by decide +kernel
theorem dTa_type_71 : decode cTa_type 71 = .ok (.iload_n 1, 1) := by decide +kernel
theorem dTa_type_72 : decode cTa_type 72 = .ok (.i2b, 1) := by decide +kernel
theorem dTa_type_73 : decode cTa_type 73 = .ok (.bastore, 1) := by decide +kernel
theorem dTa_type_74 : decode cTa_type 74 = .ok (.aload_n 0, 1) := by decide +kernel
theorem dTa_type_75 : decode cTa_type 75 = .ok (.dup, 1) := by decide +kernel
theorem dTa_type_76 : decode cTa_type 76 = .ok (.getfield 13, 3) := by decide +kernel
theorem dTa_type_79 : decode cTa_type 79 = .ok (.iconst 4, 1) := by decide +kernel
theorem dTa_type_80 : decode cTa_type 80 = .ok (.iadd, 1) := by decide +kernel
theorem dTa_type_81 : decode cTa_type 81 = .ok (.putfield 13, 3) := by decide +kernel
theorem dTa_type_84 : decode cTa_type 84 = .ok (.return_, 1) := by decide +kernel
theorem dTa_placeAt_0 : decode cTa_placeAt 0 = .ok (.iload_n 1, 1) := by decide +kernel
theorem dTa_placeAt_1 : decode cTa_placeAt 1 = .ok (.bipush 8, 2) := by decide +kernel
theorem dTa_placeAt_3 : decode cTa_placeAt 3 = .ok (.imul, 1) := by decide +kernel
theorem dTa_placeAt_4 : decode cTa_placeAt 4 = .ok (.istore_n 2, 1) := by decide +kernel
theorem dTa_placeAt_5 : decode cTa_placeAt 5 = .ok (.iload_n 1, 1) := by decide +kernel
theorem dTa_placeAt_6 : decode cTa_placeAt 6 = .ok (.ifCond .lt 14, 3) := by decide +kernel
theorem dTa_placeAt_9 : decode cTa_placeAt 9 = .ok (.iload_n 2, 1) := by decide +kernel
theorem dTa_placeAt_10 : decode cTa_placeAt 10 = .ok (.bipush 8, 2) := by decide +kernel
theorem dTa_placeAt_12 : decode cTa_placeAt 12 = .ok (.iadd, 1) := by decide +kernel
theorem dTa_placeAt_13 : decode cTa_placeAt 13 = .ok (.aload_n 0, 1) := by decide +kernel
theorem dTa_placeAt_14 : decode cTa_placeAt 14 = .ok (.getfield 13, 3) := by decide +kernel
theorem dTa_placeAt_17 : decode cTa_placeAt 17 = .ok (.if_icmp .le 5, 3) := by decide +kernel
theorem dTa_placeAt_20 : decode cTa_placeAt 20 = .ok (.lconst 0, 1) := by decide +kernel
theorem dTa_placeAt_21 : decode cTa_placeAt 21 = .ok (.lreturn, 1) := by decide +kernel
theorem dTa_placeAt_22 : decode cTa_placeAt 22 = .ok (.lconst 0, 1) := by decide +kernel
theorem dTa_placeAt_23 : decode cTa_placeAt 23 = .ok (.lstore_n 3, 1) := by decide +kernel
theorem dTa_placeAt_24 : decode cTa_placeAt 24 = .ok (.bipush 7, 2) := by decide +kernel
theorem dTa_placeAt_26 : decode cTa_placeAt 26 = .ok (.istore 5, 2) := by decide +kernel
theorem dTa_placeAt_28 : decode cTa_placeAt 28 = .ok (.iload 5, 2) := by decide +kernel
theorem dTa_placeAt_30 : decode cTa_placeAt 30 = .ok (.ifCond .lt 29, 3) := by decide +kernel
theorem dTa_placeAt_33 : decode cTa_placeAt 33 = .ok (.lload_n 3, 1) := by decide +kernel
theorem dTa_placeAt_34 : decode cTa_placeAt 34 = .ok (.bipush 8, 2) := by decide +kernel
theorem dTa_placeAt_36 : decode cTa_placeAt 36 = .ok (.lshl, 1) := by decide +kernel
theorem dTa_placeAt_37 : decode cTa_placeAt 37 = .ok (.aload_n 0, 1) := by decide +kernel
theorem dTa_placeAt_38 : decode cTa_placeAt 38 = .ok (.getfield 7, 3) := by decide +kernel
theorem dTa_placeAt_41 : decode cTa_placeAt 41 = .ok (.iload_n 2, 1) := by decide +kernel
theorem dTa_placeAt_42 : decode cTa_placeAt 42 = .ok (.iload 5, 2) := by decide +kernel
theorem dTa_placeAt_44 : decode cTa_placeAt 44 = .ok (.iadd, 1) := by decide +kernel
theorem dTa_placeAt_45 : decode cTa_placeAt 45 = .ok (.baload, 1) := by decide +kernel
theorem dTa_placeAt_46 : decode cTa_placeAt 46 = .ok (.sipush 255, 3) := by decide +kernel
theorem dTa_placeAt_49 : decode cTa_placeAt 49 = .ok (.iand, 1) := by decide +kernel
theorem dTa_placeAt_50 : decode cTa_placeAt 50 = .ok (.i2l, 1) := by decide +kernel
theorem dTa_placeAt_51 : decode cTa_placeAt 51 = .ok (.lor, 1) := by decide +kernel
theorem dTa_placeAt_52 : decode cTa_placeAt 52 = .ok (.lstore_n 3, 1) := by decide +kernel
theorem dTa_placeAt_53 : decode cTa_placeAt 53 = .ok (.iinc 5 (-1), 3) := by decide +kernel
theorem dTa_placeAt_56 : decode cTa_placeAt 56 = .ok (.goto (-28), 3) := by decide +kernel
theorem dTa_placeAt_59 : decode cTa_placeAt 59 = .ok (.lload_n 3, 1) := by decide +kernel
theorem dTa_placeAt_60 : decode cTa_placeAt 60 = .ok (.lreturn, 1) := by decide +kernel
