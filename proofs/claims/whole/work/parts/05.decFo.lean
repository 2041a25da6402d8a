theorem dFo_firstWrongForItself_0 : decode cFo_firstWrongForItself 0 = .ok (.iconst 0, 1) := by decide +kernel
theorem dFo_firstWrongForItself_1 : decode cFo_firstWrongForItself 1 = .ok (.istore_n 2, 1) := by decide +kernel
theorem dFo_firstWrongForItself_2 : decode cFo_firstWrongForItself 2 = .ok (.iload_n 2, 1) := by decide +kernel
theorem dFo_firstWrongForItself_3 : decode cFo_firstWrongForItself 3 = .ok (.aload_n 0, 1) := by decide +kernel
theorem dFo_firstWrongForItself_4 : decode cFo_firstWrongForItself 4 = .ok (.getfield 9, 3) := by decide +kernel
theorem dFo_firstWrongForItself_7 : decode cFo_firstWrongForItself 7 = .ok (.if_icmp .ge 61, 3) := by decide +kernel
theorem dFo_firstWrongForItself_10 : decode cFo_firstWrongForItself 10 = .ok (.aload_n 0, 1) := by decide +kernel
theorem dFo_firstWrongForItself_11 : decode cFo_firstWrongForItself 11 = .ok (.iload_n 2, 1) := by decide +kernel
theorem dFo_firstWrongForItself_12 : decode cFo_firstWrongForItself 12 = .ok (.invokevirtual 15, 3) := by decide +kernel
theorem dFo_firstWrongForItself_15 : decode cFo_firstWrongForItself 15 = .ok (.lstore_n 3, 1) := by decide +kernel
theorem dFo_firstWrongForItself_16 : decode cFo_firstWrongForItself 16 = .ok (.lload_n 3, 1) := by decide +kernel
theorem dFo_firstWrongForItself_17 : decode cFo_firstWrongForItself 17 = .ok (.invokestatic 19, 3) := by decide +kernel
theorem dFo_firstWrongForItself_20 : decode cFo_firstWrongForItself 20 = .ok (.ifCond .ne 5, 3) := by decide +kernel
theorem dFo_firstWrongForItself_23 : decode cFo_firstWrongForItself 23 = .ok (.iload_n 2, 1) := by decide +kernel
theorem dFo_firstWrongForItself_24 : decode cFo_firstWrongForItself 24 = .ok (.ireturn, 1) := by decide +kernel
theorem dFo_firstWrongForItself_25 : decode cFo_firstWrongForItself 25 = .ok (.lload_n 3, 1) := by decide +kernel
theorem dFo_firstWrongForItself_26 : decode cFo_firstWrongForItself 26 = .ok (.invokestatic 25, 3) := by decide +kernel
theorem dFo_firstWrongForItself_29 : decode cFo_firstWrongForItself 29 = .ok (.ifCond .eq 33, 3) := by decide +kernel
theorem dFo_firstWrongForItself_32 : decode cFo_firstWrongForItself 32 = .ok (.aload_n 0, 1) := by decide +kernel
theorem dFo_firstWrongForItself_33 : decode cFo_firstWrongForItself 33 = .ok (.iload_n 2, 1) := by decide +kernel
theorem dFo_firstWrongForItself_34 : decode cFo_firstWrongForItself 34 = .ok (.iconst 1, 1) := by decide +kernel
theorem dFo_firstWrongForItself_35 : decode cFo_firstWrongForItself 35 = .ok (.iadd, 1) := by decide +kernel
theorem dFo_firstWrongForItself_36 : decode cFo_firstWrongForItself 36 = .ok (.i2l, 1) := by decide +kernel
theorem dFo_firstWrongForItself_37 : decode cFo_firstWrongForItself 37 = .ok (.invokevirtual 30, 3) := by decide +kernel
theorem dFo_firstWrongForItself_40 : decode cFo_firstWrongForItself 40 = .ok (.ifCond .eq 17, 3) := by decide +kernel
theorem dFo_firstWrongForItself_43 : decode cFo_firstWrongForItself 43 = .ok (.lload_n 3, 1) := by decide +kernel
theorem dFo_firstWrongForItself_44 : decode cFo_firstWrongForItself 44 = .ok (.aload_n 0, 1) := by decide +kernel
theorem dFo_firstWrongForItself_45 : decode cFo_firstWrongForItself 45 = .ok (.iload_n 2, 1) := by decide +kernel
theorem dFo_firstWrongForItself_46 : decode cFo_firstWrongForItself 46 = .ok (.iconst 1, 1) := by decide +kernel
theorem dFo_firstWrongForItself_47 : decode cFo_firstWrongForItself 47 = .ok (.iadd, 1) := by decide +kernel
theorem dFo_firstWrongForItself_48 : decode cFo_firstWrongForItself 48 = .ok (.invokevirtual 15, 3) := by decide +kernel
theorem dFo_firstWrongForItself_51 : decode cFo_firstWrongForItself 51 = .ok (.invokestatic 33, 3) := by decide +kernel
theorem dFo_firstWrongForItself_54 : decode cFo_firstWrongForItself 54 = .ok (.ifCond .ne 5, 3) := by decide +kernel
theorem dFo_firstWrongForItself_57 : decode cFo_firstWrongForItself 57 = .ok (.iload_n 2, 1) := by decide +kernel
theorem dFo_firstWrongForItself_58 : decode cFo_firstWrongForItself 58 = .ok (.ireturn, 1) := by decide +kernel
theorem dFo_firstWrongForItself_59 : decode cFo_firstWrongForItself 59 = .ok (.iinc 2 1, 3) := by decide +kernel
theorem dFo_firstWrongForItself_62 : decode cFo_firstWrongForItself 62 = .ok (.iinc 2 1, 3) := by decide +kernel
theorem dFo_firstWrongForItself_65 : decode cFo_firstWrongForItself 65 = .ok (.goto (-63), 3) := by decide +kernel
theorem dFo_firstWrongForItself_68 : decode cFo_firstWrongForItself 68 = .ok (.iload_n 1, 1) := by decide +kernel
theorem dFo_firstWrongForItself_69 : decode cFo_firstWrongForItself 69 = .ok (.ifCond .ne 10, 3) := by decide +kernel
theorem dFo_firstWrongForItself_72 : decode cFo_firstWrongForItself 72 = .ok (.aload_n 0, 1) := by decide +kernel
theorem dFo_firstWrongForItself_73 : decode cFo_firstWrongForItself 73 = .ok (.getfield 9, 3) := by decide +kernel
theorem dFo_firstWrongForItself_76 : decode cFo_firstWrongForItself 76 = .ok (.ifCond .ne 10, 3) := by decide +kernel
theorem dFo_firstWrongForItself_79 : decode cFo_firstWrongForItself 79 = .ok (.aload_n 0, 1) := by decide +kernel
theorem dFo_firstWrongForItself_80 : decode cFo_firstWrongForItself 80 = .ok (.getfield 9, 3) := by decide +kernel
theorem dFo_firstWrongForItself_83 : decode cFo_firstWrongForItself 83 = .ok (.goto 4, 3) := by decide +kernel
theorem dFo_firstWrongForItself_86 : decode cFo_firstWrongForItself 86 = .ok (.iconst (-1), 1) := by decide +kernel
theorem dFo_firstWrongForItself_87 : decode cFo_firstWrongForItself 87 = .ok (.ireturn, 1) := by decide +kernel
theorem dFo_firstGoingWrong_0 : decode cFo_firstGoingWrong 0 = .ok (.iconst 0, 1) := by decide +kernel
theorem dFo_firstGoingWrong_1 : decode cFo_firstGoingWrong 1 = .ok (.istore_n 1, 1) := by decide +kernel
theorem dFo_firstGoingWrong_2 : decode cFo_firstGoingWrong 2 = .ok (.iload_n 1, 1) := by decide +kernel
theorem dFo_firstGoingWrong_3 : decode cFo_firstGoingWrong 3 = .ok (.aload_n 0, 1) := by decide +kernel
theorem dFo_firstGoingWrong_4 : decode cFo_firstGoingWrong 4 = .ok (.getfield 9, 3) := by decide +kernel
theorem dFo_firstGoingWrong_7 : decode cFo_firstGoingWrong 7 = .ok (.if_icmp .ge 36, 3) := by decide +kernel
theorem dFo_firstGoingWrong_10 : decode cFo_firstGoingWrong 10 = .ok (.aload_n 0, 1) := by decide +kernel
theorem dFo_firstGoingWrong_11 : decode cFo_firstGoingWrong 11 = .ok (.iload_n 1, 1) := by decide +kernel
theorem dFo_firstGoingWrong_12 : decode cFo_firstGoingWrong 12 = .ok (.invokevirtual 15, 3) := by decide +kernel
theorem dFo_firstGoingWrong_15 : decode cFo_firstGoingWrong 15 = .ok (.lstore_n 2, 1) := by decide +kernel
theorem dFo_firstGoingWrong_16 : decode cFo_firstGoingWrong 16 = .ok (.aload_n 0, 1) := by decide +kernel
theorem dFo_firstGoingWrong_17 : decode cFo_firstGoingWrong 17 = .ok (.iload_n 1, 1) := by decide +kernel
theorem dFo_firstGoingWrong_18 : decode cFo_firstGoingWrong 18 = .ok (.lload_n 2, 1) := by decide +kernel
theorem dFo_firstGoingWrong_19 : decode cFo_firstGoingWrong 19 = .ok (.invokestatic 37, 3) := by decide +kernel
theorem dFo_firstGoingWrong_22 : decode cFo_firstGoingWrong 22 = .ok (.ifCond .ne 5, 3) := by decide +kernel
theorem dFo_firstGoingWrong_25 : decode cFo_firstGoingWrong 25 = .ok (.iload_n 1, 1) := by decide +kernel
theorem dFo_firstGoingWrong_26 : decode cFo_firstGoingWrong 26 = .ok (.ireturn, 1) := by decide +kernel
theorem dFo_firstGoingWrong_27 : decode cFo_firstGoingWrong 27 = .ok (.lload_n 2, 1) := by decide +kernel
theorem dFo_firstGoingWrong_28 : decode cFo_firstGoingWrong 28 = .ok (.invokestatic 25, 3) := by decide +kernel
theorem dFo_firstGoingWrong_31 : decode cFo_firstGoingWrong 31 = .ok (.ifCond .eq 6, 3) := by decide +kernel
theorem dFo_firstGoingWrong_34 : decode cFo_firstGoingWrong 34 = .ok (.iinc 1 1, 3) := by decide +kernel
theorem dFo_firstGoingWrong_37 : decode cFo_firstGoingWrong 37 = .ok (.iinc 1 1, 3) := by decide +kernel
theorem dFo_firstGoingWrong_40 : decode cFo_firstGoingWrong 40 = .ok (.goto (-38), 3) := by decide +kernel
theorem dFo_firstGoingWrong_43 : decode cFo_firstGoingWrong 43 = .ok (.iconst (-1), 1) := by decide +kernel
theorem dFo_firstGoingWrong_44 : decode cFo_firstGoingWrong 44 = .ok (.ireturn, 1) := by decide +kernel
theorem dFo_goesOnRightly_0 : decode cFo_goesOnRightly 0 = .ok (.lload_n 2, 1) := by decide +kernel
theorem dFo_goesOnRightly_1 : decode cFo_goesOnRightly 1 = .ok (.invokestatic 41, 3) := by decide +kernel
theorem dFo_goesOnRightly_4 : decode cFo_goesOnRightly 4 = .ok (.ifCond .eq 5, 3) := by decide +kernel
theorem dFo_goesOnRightly_7 : decode cFo_goesOnRightly 7 = .ok (.iconst 1, 1) := by decide +kernel
theorem dFo_goesOnRightly_8 : decode cFo_goesOnRightly 8 = .ok (.ireturn, 1) := by decide +kernel
theorem dFo_goesOnRightly_9 : decode cFo_goesOnRightly 9 = .ok (.lload_n 2, 1) := by decide +kernel
theorem dFo_goesOnRightly_10 : decode cFo_goesOnRightly 10 = .ok (.invokestatic 44, 3) := by decide +kernel
theorem dFo_goesOnRightly_13 : decode cFo_goesOnRightly 13 = .ok (.ifCond .eq 13, 3) := by decide +kernel
theorem dFo_goesOnRightly_16 : decode cFo_goesOnRightly 16 = .ok (.aload_n 0, 1) := by decide +kernel
theorem dFo_goesOnRightly_17 : decode cFo_goesOnRightly 17 = .ok (.iload_n 1, 1) := by decide +kernel
theorem dFo_goesOnRightly_18 : decode cFo_goesOnRightly 18 = .ok (.lload_n 2, 1) := by decide +kernel
theorem dFo_goesOnRightly_19 : decode cFo_goesOnRightly 19 = .ok (.invokestatic 47, 3) := by decide +kernel
theorem dFo_goesOnRightly_22 : decode cFo_goesOnRightly 22 = .ok (.invokestatic 51, 3) := by decide +kernel
theorem dFo_goesOnRightly_25 : decode cFo_goesOnRightly 25 = .ok (.ireturn, 1) := by decide +kernel
theorem dFo_goesOnRightly_26 : decode cFo_goesOnRightly 26 = .ok (.lload_n 2, 1) := by decide +kernel
theorem dFo_goesOnRightly_27 : decode cFo_goesOnRightly 27 = .ok (.invokestatic 55, 3) := by decide +kernel
theorem dFo_goesOnRightly_30 : decode cFo_goesOnRightly 30 = .ok (.ifCond .eq 17, 3) := by decide +kernel
theorem dFo_goesOnRightly_33 : decode cFo_goesOnRightly 33 = .ok (.aload_n 0, 1) := by decide +kernel
theorem dFo_goesOnRightly_34 : decode cFo_goesOnRightly 34 = .ok (.iload_n 1, 1) := by decide +kernel
theorem dFo_goesOnRightly_35 : decode cFo_goesOnRightly 35 = .ok (.lload_n 2, 1) := by decide +kernel
theorem dFo_goesOnRightly_36 : decode cFo_goesOnRightly 36 = .ok (.invokestatic 47, 3) := by decide +kernel
theorem dFo_goesOnRightly_39 : decode cFo_goesOnRightly 39 = .ok (.invokestatic 51, 3) := by decide +kernel
theorem dFo_goesOnRightly_42 : decode cFo_goesOnRightly 42 = .ok (.ifCond .ne 5, 3) := by decide +kernel
theorem dFo_goesOnRightly_45 : decode cFo_goesOnRightly 45 = .ok (.iconst 0, 1) := by decide +kernel
theorem dFo_goesOnRightly_46 : decode cFo_goesOnRightly 46 = .ok (.ireturn, 1) := by decide +kernel
theorem dFo_goesOnRightly_47 : decode cFo_goesOnRightly 47 = .ok (.aload_n 0, 1) := by decide +kernel
theorem dFo_goesOnRightly_48 : decode cFo_goesOnRightly 48 = .ok (.iload_n 1, 1) := by decide +kernel
theorem dFo_goesOnRightly_49 : decode cFo_goesOnRightly 49 = .ok (.lload_n 2, 1) := by decide +kernel
theorem dFo_goesOnRightly_50 : decode cFo_goesOnRightly 50 = .ok (.invokestatic 25, 3) := by decide +kernel
theorem dFo_goesOnRightly_53 : decode cFo_goesOnRightly 53 = .ok (.ifCond .eq 7, 3) := by decide +kernel
theorem dFo_goesOnRightly_56 : decode cFo_goesOnRightly 56 = .ok (.iconst 2, 1) := by decide +kernel
theorem dFo_goesOnRightly_57 : decode cFo_goesOnRightly 57 = .ok (.goto 4, 3) := by decide +kernel
theorem dFo_goesOnRightly_60 : decode cFo_goesOnRightly 60 = .ok (.iconst 1, 1) := by decide +kernel
theorem dFo_goesOnRightly_61 : decode cFo_goesOnRightly 61 = .ok (.iadd, 1) := by decide +kernel
theorem dFo_goesOnRightly_62 : decode cFo_goesOnRightly 62 = .ok (.i2l, 1) := by decide +kernel
theorem dFo_goesOnRightly_63 : decode cFo_goesOnRightly 63 = .ok (.invokestatic 51, 3) := by decide +kernel
theorem dFo_goesOnRightly_66 : decode cFo_goesOnRightly 66 = .ok (.ireturn, 1) := by decide +kernel
theorem dFo_isStart_0 : decode cFo_isStart 0 = .ok (.aload_n 0, 1) := by decide +kernel
theorem dFo_isStart_1 : decode cFo_isStart 1 = .ok (.lload_n 1, 1) := by decide +kernel
theorem dFo_isStart_2 : decode cFo_isStart 2 = .ok (.invokevirtual 30, 3) := by decide +kernel
theorem dFo_isStart_5 : decode cFo_isStart 5 = .ok (.ifCond .eq 19, 3) := by decide +kernel
theorem dFo_isStart_8 : decode cFo_isStart 8 = .ok (.aload_n 0, 1) := by decide +kernel
theorem dFo_isStart_9 : decode cFo_isStart 9 = .ok (.lload_n 1, 1) := by decide +kernel
theorem dFo_isStart_10 : decode cFo_isStart 10 = .ok (.l2i, 1) := by decide +kernel
theorem dFo_isStart_11 : decode cFo_isStart 11 = .ok (.invokevirtual 15, 3) := by decide +kernel
theorem dFo_isStart_14 : decode cFo_isStart 14 = .ok (.invokestatic 58, 3) := by decide +kernel
theorem dFo_isStart_17 : decode cFo_isStart 17 = .ok (.ifCond .eq 7, 3) := by decide +kernel
theorem dFo_isStart_20 : decode cFo_isStart 20 = .ok (.iconst 1, 1) := by decide +kernel
theorem dFo_isStart_21 : decode cFo_isStart 21 = .ok (.goto 4, 3) := by decide +kernel
theorem dFo_isStart_24 : decode cFo_isStart 24 = .ok (.iconst 0, 1) := by decide +kernel
theorem dFo_isStart_25 : decode cFo_isStart 25 = .ok (.ireturn, 1) := by decide +kernel
theorem dFo_isInstruction_0 : decode cFo_isInstruction 0 = .ok (.lload_n 0, 1) := by decide +kernel
theorem dFo_isInstruction_1 : decode cFo_isInstruction 1 = .ok (.invokestatic 62, 3) := by decide +kernel
theorem dFo_isInstruction_4 : decode cFo_isInstruction 4 = .ok (.tableswitch 99 0 6 #[44, 49, 54, 59, 99, 80, 80], 44) := by decide +kernel
theorem dFo_isInstruction_48 : decode cFo_isInstruction 48 = .ok (.lload_n 0, 1) := by decide +kernel
theorem dFo_isInstruction_49 : decode cFo_isInstruction 49 = .ok (.invokestatic 65, 3) := by decide +kernel
theorem dFo_isInstruction_52 : decode cFo_isInstruction 52 = .ok (.ireturn, 1) := by decide +kernel
theorem dFo_isInstruction_53 : decode cFo_isInstruction 53 = .ok (.lload_n 0, 1) := by decide +kernel
theorem dFo_isInstruction_54 : decode cFo_isInstruction 54 = .ok (.invokestatic 68, 3) := by decide +kernel
theorem dFo_isInstruction_57 : decode cFo_isInstruction 57 = .ok (.ireturn, 1) := by decide +kernel
theorem dFo_isInstruction_58 : decode cFo_isInstruction 58 = .ok (.lload_n 0, 1) := by decide +kernel
theorem dFo_isInstruction_59 : decode cFo_isInstruction 59 = .ok (.invokestatic 71, 3) := by decide +kernel
theorem dFo_isInstruction_62 : decode cFo_isInstruction 62 = .ok (.ireturn, 1) := by decide +kernel
theorem dFo_isInstruction_63 : decode cFo_isInstruction 63 = .ok (.lload_n 0, 1) := by decide +kernel
theorem dFo_isInstruction_64 : decode cFo_isInstruction 64 = .ok (.invokestatic 74, 3) := by decide +kernel
theorem dFo_isInstruction_67 : decode cFo_isInstruction 67 = .ok (.bipush 6, 2) := by decide +kernel
theorem dFo_isInstruction_69 : decode cFo_isInstruction 69 = .ok (.if_icmp .ne 10, 3) := by decide +kernel
theorem dFo_isInstruction_72 : decode cFo_isInstruction 72 = .ok (.lload_n 0, 1) := by decide +kernel
theorem dFo_isInstruction_73 : decode cFo_isInstruction 73 = .ok (.invokestatic 77, 3) := by decide +kernel
theorem dFo_isInstruction_76 : decode cFo_isInstruction 76 = .ok (.goto 7, 3) := by decide +kernel
theorem dFo_isInstruction_79 : decode cFo_isInstruction 79 = .ok (.lload_n 0, 1) := by decide +kernel
theorem dFo_isInstruction_80 : decode cFo_isInstruction 80 = .ok (.invokestatic 80, 3) := by decide +kernel
theorem dFo_isInstruction_83 : decode cFo_isInstruction 83 = .ok (.ireturn, 1) := by decide +kernel
theorem dFo_isInstruction_84 : decode cFo_isInstruction 84 = .ok (.lload_n 0, 1) := by decide +kernel
theorem dFo_isInstruction_85 : decode cFo_isInstruction 85 = .ok (.invokestatic 55, 3) := by decide +kernel
theorem dFo_isInstruction_88 : decode cFo_isInstruction 88 = .ok (.ifCond .eq 10, 3) := by decide +kernel
theorem dFo_isInstruction_91 : decode cFo_isInstruction 91 = .ok (.lload_n 0, 1) := by decide +kernel
theorem dFo_isInstruction_92 : decode cFo_isInstruction 92 = .ok (.invokestatic 83, 3) := by decide +kernel
theorem dFo_isInstruction_95 : decode cFo_isInstruction 95 = .ok (.goto 7, 3) := by decide +kernel
theorem dFo_isInstruction_98 : decode cFo_isInstruction 98 = .ok (.lload_n 0, 1) := by decide +kernel
theorem dFo_isInstruction_99 : decode cFo_isInstruction 99 = .ok (.invokestatic 86, 3) := by decide +kernel
theorem dFo_isInstruction_102 : decode cFo_isInstruction 102 = .ok (.ireturn, 1) := by decide +kernel
theorem dFo_isInstruction_103 : decode cFo_isInstruction 103 = .ok (.lload_n 0, 1) := by decide +kernel
theorem dFo_isInstruction_104 : decode cFo_isInstruction 104 = .ok (.invokestatic 89, 3) := by decide +kernel
theorem dFo_isInstruction_107 : decode cFo_isInstruction 107 = .ok (.ireturn, 1) := by decide +kernel
theorem dFo_isFirstOfTwo_0 : decode cFo_isFirstOfTwo 0 = .ok (.lload_n 0, 1) := by decide +kernel
theorem dFo_isFirstOfTwo_1 : decode cFo_isFirstOfTwo 1 = .ok (.invokestatic 92, 3) := by decide +kernel
theorem dFo_isFirstOfTwo_4 : decode cFo_isFirstOfTwo 4 = .ok (.istore_n 2, 1) := by decide +kernel
theorem dFo_isFirstOfTwo_5 : decode cFo_isFirstOfTwo 5 = .ok (.lload_n 0, 1) := by decide +kernel
theorem dFo_isFirstOfTwo_6 : decode cFo_isFirstOfTwo 6 = .ok (.invokestatic 25, 3) := by decide +kernel
theorem dFo_isFirstOfTwo_9 : decode cFo_isFirstOfTwo 9 = .ok (.ifCond .eq 39, 3) := by decide +kernel
theorem dFo_isFirstOfTwo_12 : decode cFo_isFirstOfTwo 12 = .ok (.lload_n 0, 1) := by decide +kernel
theorem dFo_isFirstOfTwo_13 : decode cFo_isFirstOfTwo 13 = .ok (.invokestatic 95, 3) := by decide +kernel
theorem dFo_isFirstOfTwo_16 : decode cFo_isFirstOfTwo 16 = .ok (.bipush 9, 2) := by decide +kernel
theorem dFo_isFirstOfTwo_18 : decode cFo_isFirstOfTwo 18 = .ok (.if_icmp .gt 30, 3) := by decide +kernel
theorem dFo_isFirstOfTwo_21 : decode cFo_isFirstOfTwo 21 = .ok (.lload_n 0, 1) := by decide +kernel
theorem dFo_isFirstOfTwo_22 : decode cFo_isFirstOfTwo 22 = .ok (.invokestatic 98, 3) := by decide +kernel
theorem dFo_isFirstOfTwo_25 : decode cFo_isFirstOfTwo 25 = .ok (.ifCond .ne 23, 3) := by decide +kernel
theorem dFo_isFirstOfTwo_28 : decode cFo_isFirstOfTwo 28 = .ok (.iload_n 2, 1) := by decide +kernel
theorem dFo_isFirstOfTwo_29 : decode cFo_isFirstOfTwo 29 = .ok (.ifCond .eq 15, 3) := by decide +kernel
theorem dFo_isFirstOfTwo_32 : decode cFo_isFirstOfTwo 32 = .ok (.iload_n 2, 1) := by decide +kernel
theorem dFo_isFirstOfTwo_33 : decode cFo_isFirstOfTwo 33 = .ok (.iconst 1, 1) := by decide +kernel
theorem dFo_isFirstOfTwo_34 : decode cFo_isFirstOfTwo 34 = .ok (.if_icmp .ne 14, 3) := by decide +kernel
theorem dFo_isFirstOfTwo_37 : decode cFo_isFirstOfTwo 37 = .ok (.lload_n 0, 1) := by decide +kernel
theorem dFo_isFirstOfTwo_38 : decode cFo_isFirstOfTwo 38 = .ok (.invokestatic 101, 3) := by decide +kernel
theorem dFo_isFirstOfTwo_41 : decode cFo_isFirstOfTwo 41 = .ok (.ifCond .lt 7, 3) := by decide +kernel
theorem dFo_isFirstOfTwo_44 : decode cFo_isFirstOfTwo 44 = .ok (.iconst 1, 1) := by decide +kernel
theorem dFo_isFirstOfTwo_45 : decode cFo_isFirstOfTwo 45 = .ok (.goto 4, 3) := by decide +kernel
theorem dFo_isFirstOfTwo_48 : decode cFo_isFirstOfTwo 48 = .ok (.iconst 0, 1) := by decide +kernel
theorem dFo_isFirstOfTwo_49 : decode cFo_isFirstOfTwo 49 = .ok (.ireturn, 1) := by decide +kernel
theorem dFo_isSecondOf_0 : decode cFo_isSecondOf 0 = .ok (.lload_n 2, 1) := by decide +kernel
theorem dFo_isSecondOf_1 : decode cFo_isSecondOf 1 = .ok (.l2i, 1) := by decide +kernel
theorem dFo_isSecondOf_2 : decode cFo_isSecondOf 2 = .ok (.ifCond .ne 7, 3) := by decide +kernel
theorem dFo_isSecondOf_5 : decode cFo_isSecondOf 5 = .ok (.iconst 1, 1) := by decide +kernel
theorem dFo_isSecondOf_6 : decode cFo_isSecondOf 6 = .ok (.goto 4, 3) := by decide +kernel
theorem dFo_isSecondOf_9 : decode cFo_isSecondOf 9 = .ok (.iconst 0, 1) := by decide +kernel
theorem dFo_isSecondOf_10 : decode cFo_isSecondOf 10 = .ok (.istore 4, 2) := by decide +kernel
theorem dFo_isSecondOf_12 : decode cFo_isSecondOf 12 = .ok (.iload 4, 2) := by decide +kernel
theorem dFo_isSecondOf_14 : decode cFo_isSecondOf 14 = .ok (.ifCond .eq 21, 3) := by decide +kernel
theorem dFo_isSecondOf_17 : decode cFo_isSecondOf 17 = .ok (.lload_n 0, 1) := by decide +kernel
theorem dFo_isSecondOf_18 : decode cFo_isSecondOf 18 = .ok (.invokestatic 92, 3) := by decide +kernel
theorem dFo_isSecondOf_21 : decode cFo_isSecondOf 21 = .ok (.ifCond .eq 10, 3) := by decide +kernel
theorem dFo_isSecondOf_24 : decode cFo_isSecondOf 24 = .ok (.lload_n 2, 1) := by decide +kernel
theorem dFo_isSecondOf_25 : decode cFo_isSecondOf 25 = .ok (.invokestatic 101, 3) := by decide +kernel
theorem dFo_isSecondOf_28 : decode cFo_isSecondOf 28 = .ok (.ifCond .ne 7, 3) := by decide +kernel
theorem dFo_isSecondOf_31 : decode cFo_isSecondOf 31 = .ok (.iconst 1, 1) := by decide +kernel
theorem dFo_isSecondOf_32 : decode cFo_isSecondOf 32 = .ok (.goto 4, 3) := by decide +kernel
theorem dFo_isSecondOf_35 : decode cFo_isSecondOf 35 = .ok (.iconst 0, 1) := by decide +kernel
theorem dFo_isSecondOf_36 : decode cFo_isSecondOf 36 = .ok (.ireturn, 1) := by decide +kernel
theorem dFo_isRead_0 : decode cFo_isRead 0 = .ok (.lload_n 0, 1) := by decide +kernel
theorem dFo_isRead_1 : decode cFo_isRead 1 = .ok (.invokestatic 74, 3) := by decide +kernel
theorem dFo_isRead_4 : decode cFo_isRead 4 = .ok (.istore_n 2, 1) := by decide +kernel
theorem dFo_isRead_5 : decode cFo_isRead 5 = .ok (.iload_n 2, 1) := by decide +kernel
theorem dFo_isRead_6 : decode cFo_isRead 6 = .ok (.iconst 3, 1) := by decide +kernel
theorem dFo_isRead_7 : decode cFo_isRead 7 = .ok (.if_icmp .eq 17, 3) := by decide +kernel
theorem dFo_isRead_10 : decode cFo_isRead 10 = .ok (.iload_n 2, 1) := by decide +kernel
theorem dFo_isRead_11 : decode cFo_isRead 11 = .ok (.iconst 4, 1) := by decide +kernel
theorem dFo_isRead_12 : decode cFo_isRead 12 = .ok (.if_icmp .ne 41, 3) := by decide +kernel
theorem dFo_isRead_15 : decode cFo_isRead 15 = .ok (.lload_n 0, 1) := by decide +kernel
theorem dFo_isRead_16 : decode cFo_isRead 16 = .ok (.invokestatic 104, 3) := by decide +kernel
theorem dFo_isRead_19 : decode cFo_isRead 19 = .ok (.bipush 8, 2) := by decide +kernel
theorem dFo_isRead_21 : decode cFo_isRead 21 = .ok (.if_icmp .ge 32, 3) := by decide +kernel
theorem dFo_isRead_24 : decode cFo_isRead 24 = .ok (.lload_n 0, 1) := by decide +kernel
theorem dFo_isRead_25 : decode cFo_isRead 25 = .ok (.invokestatic 101, 3) := by decide +kernel
theorem dFo_isRead_28 : decode cFo_isRead 28 = .ok (.ifCond .ne 25, 3) := by decide +kernel
theorem dFo_isRead_31 : decode cFo_isRead 31 = .ok (.lload_n 0, 1) := by decide +kernel
theorem dFo_isRead_32 : decode cFo_isRead 32 = .ok (.invokestatic 95, 3) := by decide +kernel
theorem dFo_isRead_35 : decode cFo_isRead 35 = .ok (.bipush 9, 2) := by decide +kernel
theorem dFo_isRead_37 : decode cFo_isRead 37 = .ok (.if_icmp .gt 16, 3) := by decide +kernel
theorem dFo_isRead_40 : decode cFo_isRead 40 = .ok (.lload_n 0, 1) := by decide +kernel
theorem dFo_isRead_41 : decode cFo_isRead 41 = .ok (.invokestatic 92, 3) := by decide +kernel
theorem dFo_isRead_44 : decode cFo_isRead 44 = .ok (.bipush 10, 2) := by decide +kernel
theorem dFo_isRead_46 : decode cFo_isRead 46 = .ok (.if_icmp .gt 7, 3) := by decide +kernel
theorem dFo_isRead_49 : decode cFo_isRead 49 = .ok (.iconst 1, 1) := by decide +kernel
theorem dFo_isRead_50 : decode cFo_isRead 50 = .ok (.goto 4, 3) := by decide +kernel
theorem dFo_isRead_53 : decode cFo_isRead 53 = .ok (.iconst 0, 1) := by decide +kernel
theorem dFo_isRead_54 : decode cFo_isRead 54 = .ok (.ireturn, 1) := by decide +kernel
theorem dFo_isWriteOfNumber_0 : decode cFo_isWriteOfNumber 0 = .ok (.lload_n 0, 1) := by decide +kernel
theorem dFo_isWriteOfNumber_1 : decode cFo_isWriteOfNumber 1 = .ok (.invokestatic 74, 3) := by decide +kernel
theorem dFo_isWriteOfNumber_4 : decode cFo_isWriteOfNumber 4 = .ok (.iconst 3, 1) := by decide +kernel
theorem dFo_isWriteOfNumber_5 : decode cFo_isWriteOfNumber 5 = .ok (.if_icmp .ne 23, 3) := by decide +kernel
theorem dFo_isWriteOfNumber_8 : decode cFo_isWriteOfNumber 8 = .ok (.lload_n 0, 1) := by decide +kernel
theorem dFo_isWriteOfNumber_9 : decode cFo_isWriteOfNumber 9 = .ok (.invokestatic 95, 3) := by decide +kernel
theorem dFo_isWriteOfNumber_12 : decode cFo_isWriteOfNumber 12 = .ok (.bipush 10, 2) := by decide +kernel
theorem dFo_isWriteOfNumber_14 : decode cFo_isWriteOfNumber 14 = .ok (.if_icmp .gt 14, 3) := by decide +kernel
theorem dFo_isWriteOfNumber_17 : decode cFo_isWriteOfNumber 17 = .ok (.lload_n 0, 1) := by decide +kernel
theorem dFo_isWriteOfNumber_18 : decode cFo_isWriteOfNumber 18 = .ok (.invokestatic 92, 3) := by decide +kernel
theorem dFo_isWriteOfNumber_21 : decode cFo_isWriteOfNumber 21 = .ok (.ifCond .ne 7, 3) := by decide +kernel
theorem dFo_isWriteOfNumber_24 : decode cFo_isWriteOfNumber 24 = .ok (.iconst 1, 1) := by decide +kernel
theorem dFo_isWriteOfNumber_25 : decode cFo_isWriteOfNumber 25 = .ok (.goto 4, 3) := by decide +kernel
theorem dFo_isWriteOfNumber_28 : decode cFo_isWriteOfNumber 28 = .ok (.iconst 0, 1) := by decide +kernel
theorem dFo_isWriteOfNumber_29 : decode cFo_isWriteOfNumber 29 = .ok (.ireturn, 1) := by decide +kernel
theorem dFo_isWriteOfRegister_0 : decode cFo_isWriteOfRegister 0 = .ok (.lload_n 0, 1) := by decide +kernel
theorem dFo_isWriteOfRegister_1 : decode cFo_isWriteOfRegister 1 = .ok (.invokestatic 74, 3) := by decide +kernel
theorem dFo_isWriteOfRegister_4 : decode cFo_isWriteOfRegister 4 = .ok (.iconst 3, 1) := by decide +kernel
theorem dFo_isWriteOfRegister_5 : decode cFo_isWriteOfRegister 5 = .ok (.if_icmp .ne 32, 3) := by decide +kernel
theorem dFo_isWriteOfRegister_8 : decode cFo_isWriteOfRegister 8 = .ok (.lload_n 0, 1) := by decide +kernel
theorem dFo_isWriteOfRegister_9 : decode cFo_isWriteOfRegister 9 = .ok (.invokestatic 101, 3) := by decide +kernel
theorem dFo_isWriteOfRegister_12 : decode cFo_isWriteOfRegister 12 = .ok (.ifCond .ne 25, 3) := by decide +kernel
theorem dFo_isWriteOfRegister_15 : decode cFo_isWriteOfRegister 15 = .ok (.lload_n 0, 1) := by decide +kernel
theorem dFo_isWriteOfRegister_16 : decode cFo_isWriteOfRegister 16 = .ok (.invokestatic 95, 3) := by decide +kernel
theorem dFo_isWriteOfRegister_19 : decode cFo_isWriteOfRegister 19 = .ok (.bipush 10, 2) := by decide +kernel
theorem dFo_isWriteOfRegister_21 : decode cFo_isWriteOfRegister 21 = .ok (.if_icmp .gt 16, 3) := by decide +kernel
theorem dFo_isWriteOfRegister_24 : decode cFo_isWriteOfRegister 24 = .ok (.lload_n 0, 1) := by decide +kernel
theorem dFo_isWriteOfRegister_25 : decode cFo_isWriteOfRegister 25 = .ok (.invokestatic 92, 3) := by decide +kernel
theorem dFo_isWriteOfRegister_28 : decode cFo_isWriteOfRegister 28 = .ok (.bipush 10, 2) := by decide +kernel
theorem dFo_isWriteOfRegister_30 : decode cFo_isWriteOfRegister 30 = .ok (.if_icmp .gt 7, 3) := by decide +kernel
theorem dFo_isWriteOfRegister_33 : decode cFo_isWriteOfRegister 33 = .ok (.iconst 1, 1) := by decide +kernel
theorem dFo_isWriteOfRegister_34 : decode cFo_isWriteOfRegister 34 = .ok (.goto 4, 3) := by decide +kernel
theorem dFo_isWriteOfRegister_37 : decode cFo_isWriteOfRegister 37 = .ok (.iconst 0, 1) := by decide +kernel
theorem dFo_isWriteOfRegister_38 : decode cFo_isWriteOfRegister 38 = .ok (.ireturn, 1) := by decide +kernel
theorem dFo_isExchange_0 : decode cFo_isExchange 0 = .ok (.lload_n 0, 1) := by decide +kernel
theorem dFo_isExchange_1 : decode cFo_isExchange 1 = .ok (.invokestatic 104, 3) := by decide +kernel
theorem dFo_isExchange_4 : decode cFo_isExchange 4 = .ok (.iconst 4, 1) := by decide +kernel
theorem dFo_isExchange_5 : decode cFo_isExchange 5 = .ok (.if_icmp .lt 50, 3) := by decide +kernel
theorem dFo_isExchange_8 : decode cFo_isExchange 8 = .ok (.lload_n 0, 1) := by decide +kernel
theorem dFo_isExchange_9 : decode cFo_isExchange 9 = .ok (.invokestatic 101, 3) := by decide +kernel
theorem dFo_isExchange_12 : decode cFo_isExchange 12 = .ok (.invokestatic 107, 3) := by decide +kernel
theorem dFo_isExchange_15 : decode cFo_isExchange 15 = .ok (.ifCond .eq 40, 3) := by decide +kernel
theorem dFo_isExchange_18 : decode cFo_isExchange 18 = .ok (.lload_n 0, 1) := by decide +kernel
theorem dFo_isExchange_19 : decode cFo_isExchange 19 = .ok (.invokestatic 95, 3) := by decide +kernel
theorem dFo_isExchange_22 : decode cFo_isExchange 22 = .ok (.bipush 10, 2) := by decide +kernel
theorem dFo_isExchange_24 : decode cFo_isExchange 24 = .ok (.if_icmp .gt 31, 3) := by decide +kernel
theorem dFo_isExchange_27 : decode cFo_isExchange 27 = .ok (.lload_n 0, 1) := by decide +kernel
theorem dFo_isExchange_28 : decode cFo_isExchange 28 = .ok (.invokestatic 92, 3) := by decide +kernel
theorem dFo_isExchange_31 : decode cFo_isExchange 31 = .ok (.lload_n 0, 1) := by decide +kernel
theorem dFo_isExchange_32 : decode cFo_isExchange 32 = .ok (.invokestatic 101, 3) := by decide +kernel
theorem dFo_isExchange_35 : decode cFo_isExchange 35 = .ok (.invokestatic 113, 3) := by decide +kernel
theorem dFo_isExchange_38 : decode cFo_isExchange 38 = .ok (.ifCond .eq 8, 3) := by decide +kernel
theorem dFo_isExchange_41 : decode cFo_isExchange 41 = .ok (.bipush 9, 2) := by decide +kernel
theorem dFo_isExchange_43 : decode cFo_isExchange 43 = .ok (.goto 5, 3) := by decide +kernel
theorem dFo_isExchange_46 : decode cFo_isExchange 46 = .ok (.bipush 10, 2) := by decide +kernel
theorem dFo_isExchange_48 : decode cFo_isExchange 48 = .ok (.if_icmp .gt 7, 3) := by decide +kernel
theorem dFo_isExchange_51 : decode cFo_isExchange 51 = .ok (.iconst 1, 1) := by decide +kernel
theorem dFo_isExchange_52 : decode cFo_isExchange 52 = .ok (.goto 4, 3) := by decide +kernel
theorem dFo_isExchange_55 : decode cFo_isExchange 55 = .ok (.iconst 0, 1) := by decide +kernel
theorem dFo_isExchange_56 : decode cFo_isExchange 56 = .ok (.ireturn, 1) := by decide +kernel
theorem dFo_isPerhapsJump_0 : decode cFo_isPerhapsJump 0 = .ok (.lload_n 0, 1) := by decide +kernel
theorem dFo_isPerhapsJump_1 : decode cFo_isPerhapsJump 1 = .ok (.invokestatic 95, 3) := by decide +kernel
theorem dFo_isPerhapsJump_4 : decode cFo_isPerhapsJump 4 = .ok (.bipush 10, 2) := by decide +kernel
theorem dFo_isPerhapsJump_6 : decode cFo_isPerhapsJump 6 = .ok (.if_icmp .gt 14, 3) := by decide +kernel
theorem dFo_isPerhapsJump_9 : decode cFo_isPerhapsJump 9 = .ok (.lload_n 0, 1) := by decide +kernel
theorem dFo_isPerhapsJump_10 : decode cFo_isPerhapsJump 10 = .ok (.invokestatic 116, 3) := by decide +kernel
theorem dFo_isPerhapsJump_13 : decode cFo_isPerhapsJump 13 = .ok (.ifCond .eq 7, 3) := by decide +kernel
theorem dFo_isPerhapsJump_16 : decode cFo_isPerhapsJump 16 = .ok (.iconst 1, 1) := by decide +kernel
theorem dFo_isPerhapsJump_17 : decode cFo_isPerhapsJump 17 = .ok (.goto 4, 3) := by decide +kernel
theorem dFo_isPerhapsJump_20 : decode cFo_isPerhapsJump 20 = .ok (.iconst 0, 1) := by decide +kernel
theorem dFo_isPerhapsJump_21 : decode cFo_isPerhapsJump 21 = .ok (.ireturn, 1) := by decide +kernel
theorem dFo_isCallOrExitOrJump_0 : decode cFo_isCallOrExitOrJump 0 = .ok (.lload_n 0, 1) := by decide +kernel
theorem dFo_isCallOrExitOrJump_1 : decode cFo_isCallOrExitOrJump 1 = .ok (.invokestatic 95, 3) := by decide +kernel
theorem dFo_isCallOrExitOrJump_4 : decode cFo_isCallOrExitOrJump 4 = .ok (.ifCond .ne 10, 3) := by decide +kernel
theorem dFo_isCallOrExitOrJump_7 : decode cFo_isCallOrExitOrJump 7 = .ok (.lload_n 0, 1) := by decide +kernel
theorem dFo_isCallOrExitOrJump_8 : decode cFo_isCallOrExitOrJump 8 = .ok (.invokestatic 92, 3) := by decide +kernel
theorem dFo_isCallOrExitOrJump_11 : decode cFo_isCallOrExitOrJump 11 = .ok (.ifCond .eq 5, 3) := by decide +kernel
theorem dFo_isCallOrExitOrJump_14 : decode cFo_isCallOrExitOrJump 14 = .ok (.iconst 0, 1) := by decide +kernel
theorem dFo_isCallOrExitOrJump_15 : decode cFo_isCallOrExitOrJump 15 = .ok (.ireturn, 1) := by decide +kernel
theorem dFo_isCallOrExitOrJump_16 : decode cFo_isCallOrExitOrJump 16 = .ok (.lload_n 0, 1) := by decide +kernel
theorem dFo_isCallOrExitOrJump_17 : decode cFo_isCallOrExitOrJump 17 = .ok (.invokestatic 58, 3) := by decide +kernel
theorem dFo_isCallOrExitOrJump_20 : decode cFo_isCallOrExitOrJump 20 = .ok (.lookupswitch 90 #[(5, 44), (6, 57), (133, 57), (149, 70)], 44) := by decide +kernel
theorem dFo_isCallOrExitOrJump_64 : decode cFo_isCallOrExitOrJump 64 = .ok (.lload_n 0, 1) := by decide +kernel
theorem dFo_isCallOrExitOrJump_65 : decode cFo_isCallOrExitOrJump 65 = .ok (.invokestatic 101, 3) := by decide +kernel
theorem dFo_isCallOrExitOrJump_68 : decode cFo_isCallOrExitOrJump 68 = .ok (.ifCond .ne 7, 3) := by decide +kernel
theorem dFo_isCallOrExitOrJump_71 : decode cFo_isCallOrExitOrJump 71 = .ok (.iconst 1, 1) := by decide +kernel
theorem dFo_isCallOrExitOrJump_72 : decode cFo_isCallOrExitOrJump 72 = .ok (.goto 4, 3) := by decide +kernel
theorem dFo_isCallOrExitOrJump_75 : decode cFo_isCallOrExitOrJump 75 = .ok (.iconst 0, 1) := by decide +kernel
theorem dFo_isCallOrExitOrJump_76 : decode cFo_isCallOrExitOrJump 76 = .ok (.ireturn, 1) := by decide +kernel
theorem dFo_isCallOrExitOrJump_77 : decode cFo_isCallOrExitOrJump 77 = .ok (.lload_n 0, 1) := by decide +kernel
theorem dFo_isCallOrExitOrJump_78 : decode cFo_isCallOrExitOrJump 78 = .ok (.invokestatic 98, 3) := by decide +kernel
theorem dFo_isCallOrExitOrJump_81 : decode cFo_isCallOrExitOrJump 81 = .ok (.ifCond .ne 7, 3) := by decide +kernel
theorem dFo_isCallOrExitOrJump_84 : decode cFo_isCallOrExitOrJump 84 = .ok (.iconst 1, 1) := by decide +kernel
theorem dFo_isCallOrExitOrJump_85 : decode cFo_isCallOrExitOrJump 85 = .ok (.goto 4, 3) := by decide +kernel
theorem dFo_isCallOrExitOrJump_88 : decode cFo_isCallOrExitOrJump 88 = .ok (.iconst 0, 1) := by decide +kernel
theorem dFo_isCallOrExitOrJump_89 : decode cFo_isCallOrExitOrJump 89 = .ok (.ireturn, 1) := by decide +kernel
theorem dFo_isCallOrExitOrJump_90 : decode cFo_isCallOrExitOrJump 90 = .ok (.lload_n 0, 1) := by decide +kernel
theorem dFo_isCallOrExitOrJump_91 : decode cFo_isCallOrExitOrJump 91 = .ok (.invokestatic 98, 3) := by decide +kernel
theorem dFo_isCallOrExitOrJump_94 : decode cFo_isCallOrExitOrJump 94 = .ok (.ifCond .ne 14, 3) := by decide +kernel
theorem dFo_isCallOrExitOrJump_97 : decode cFo_isCallOrExitOrJump 97 = .ok (.lload_n 0, 1) := by decide +kernel
theorem dFo_isCallOrExitOrJump_98 : decode cFo_isCallOrExitOrJump 98 = .ok (.invokestatic 101, 3) := by decide +kernel
theorem dFo_isCallOrExitOrJump_101 : decode cFo_isCallOrExitOrJump 101 = .ok (.ifCond .ne 7, 3) := by decide +kernel
theorem dFo_isCallOrExitOrJump_104 : decode cFo_isCallOrExitOrJump 104 = .ok (.iconst 1, 1) := by decide +kernel
theorem dFo_isCallOrExitOrJump_105 : decode cFo_isCallOrExitOrJump 105 = .ok (.goto 4, 3) := by decide +kernel
theorem dFo_isCallOrExitOrJump_108 : decode cFo_isCallOrExitOrJump 108 = .ok (.iconst 0, 1) := by decide +kernel
theorem dFo_isCallOrExitOrJump_109 : decode cFo_isCallOrExitOrJump 109 = .ok (.ireturn, 1) := by decide +kernel
theorem dFo_isCallOrExitOrJump_110 : decode cFo_isCallOrExitOrJump 110 = .ok (.iconst 0, 1) := by decide +kernel
theorem dFo_isCallOrExitOrJump_111 : decode cFo_isCallOrExitOrJump 111 = .ok (.ireturn, 1) := by decide +kernel
theorem dFo_hasOperand_0 : decode cFo_hasOperand 0 = .ok (.lload_n 0, 1) := by decide +kernel
theorem dFo_hasOperand_1 : decode cFo_hasOperand 1 = .ok (.invokestatic 119, 3) := by decide +kernel
theorem dFo_hasOperand_4 : decode cFo_hasOperand 4 = .ok (.ifCond .eq 27, 3) := by decide +kernel
theorem dFo_hasOperand_7 : decode cFo_hasOperand 7 = .ok (.lload_n 0, 1) := by decide +kernel
theorem dFo_hasOperand_8 : decode cFo_hasOperand 8 = .ok (.invokestatic 92, 3) := by decide +kernel
theorem dFo_hasOperand_11 : decode cFo_hasOperand 11 = .ok (.bipush 10, 2) := by decide +kernel
theorem dFo_hasOperand_13 : decode cFo_hasOperand 13 = .ok (.if_icmp .gt 14, 3) := by decide +kernel
theorem dFo_hasOperand_16 : decode cFo_hasOperand 16 = .ok (.lload_n 0, 1) := by decide +kernel
theorem dFo_hasOperand_17 : decode cFo_hasOperand 17 = .ok (.invokestatic 101, 3) := by decide +kernel
theorem dFo_hasOperand_20 : decode cFo_hasOperand 20 = .ok (.ifCond .ne 7, 3) := by decide +kernel
theorem dFo_hasOperand_23 : decode cFo_hasOperand 23 = .ok (.iconst 1, 1) := by decide +kernel
theorem dFo_hasOperand_24 : decode cFo_hasOperand 24 = .ok (.goto 19, 3) := by decide +kernel
theorem dFo_hasOperand_27 : decode cFo_hasOperand 27 = .ok (.iconst 0, 1) := by decide +kernel
theorem dFo_hasOperand_28 : decode cFo_hasOperand 28 = .ok (.goto 15, 3) := by decide +kernel
theorem dFo_hasOperand_31 : decode cFo_hasOperand 31 = .ok (.lload_n 0, 1) := by decide +kernel
theorem dFo_hasOperand_32 : decode cFo_hasOperand 32 = .ok (.invokestatic 92, 3) := by decide +kernel
theorem dFo_hasOperand_35 : decode cFo_hasOperand 35 = .ok (.ifCond .ne 7, 3) := by decide +kernel
theorem dFo_hasOperand_38 : decode cFo_hasOperand 38 = .ok (.iconst 1, 1) := by decide +kernel
theorem dFo_hasOperand_39 : decode cFo_hasOperand 39 = .ok (.goto 4, 3) := by decide +kernel
theorem dFo_hasOperand_42 : decode cFo_hasOperand 42 = .ok (.iconst 0, 1) := by decide +kernel
theorem dFo_hasOperand_43 : decode cFo_hasOperand 43 = .ok (.ireturn, 1) := by decide +kernel
theorem dFo_isArithmetic_0 : decode cFo_isArithmetic 0 = .ok (.lload_n 0, 1) := by decide +kernel
theorem dFo_isArithmetic_1 : decode cFo_isArithmetic 1 = .ok (.invokestatic 95, 3) := by decide +kernel
theorem dFo_isArithmetic_4 : decode cFo_isArithmetic 4 = .ok (.bipush 9, 2) := by decide +kernel
theorem dFo_isArithmetic_6 : decode cFo_isArithmetic 6 = .ok (.if_icmp .le 5, 3) := by decide +kernel
theorem dFo_isArithmetic_9 : decode cFo_isArithmetic 9 = .ok (.iconst 0, 1) := by decide +kernel
theorem dFo_isArithmetic_10 : decode cFo_isArithmetic 10 = .ok (.ireturn, 1) := by decide +kernel
theorem dFo_isArithmetic_11 : decode cFo_isArithmetic 11 = .ok (.lload_n 0, 1) := by decide +kernel
theorem dFo_isArithmetic_12 : decode cFo_isArithmetic 12 = .ok (.invokestatic 122, 3) := by decide +kernel
theorem dFo_isArithmetic_15 : decode cFo_isArithmetic 15 = .ok (.tableswitch 154 3 15 #[65, 154, 154, 154, 154, 93, 65, 154, 127, 154, 147, 152, 152], 65) := by decide +kernel
theorem dFo_isArithmetic_80 : decode cFo_isArithmetic 80 = .ok (.lload_n 0, 1) := by decide +kernel
theorem dFo_isArithmetic_81 : decode cFo_isArithmetic 81 = .ok (.invokestatic 116, 3) := by decide +kernel
theorem dFo_isArithmetic_84 : decode cFo_isArithmetic 84 = .ok (.ifCond .eq 22, 3) := by decide +kernel
theorem dFo_isArithmetic_87 : decode cFo_isArithmetic 87 = .ok (.lload_n 0, 1) := by decide +kernel
theorem dFo_isArithmetic_88 : decode cFo_isArithmetic 88 = .ok (.invokestatic 98, 3) := by decide +kernel
theorem dFo_isArithmetic_91 : decode cFo_isArithmetic 91 = .ok (.ifCond .eq 11, 3) := by decide +kernel
theorem dFo_isArithmetic_94 : decode cFo_isArithmetic 94 = .ok (.lload_n 0, 1) := by decide +kernel
theorem dFo_isArithmetic_95 : decode cFo_isArithmetic 95 = .ok (.invokestatic 98, 3) := by decide +kernel
theorem dFo_isArithmetic_98 : decode cFo_isArithmetic 98 = .ok (.iconst 1, 1) := by decide +kernel
theorem dFo_isArithmetic_99 : decode cFo_isArithmetic 99 = .ok (.if_icmp .ne 7, 3) := by decide +kernel
theorem dFo_isArithmetic_102 : decode cFo_isArithmetic 102 = .ok (.iconst 1, 1) := by decide +kernel
theorem dFo_isArithmetic_103 : decode cFo_isArithmetic 103 = .ok (.goto 4, 3) := by decide +kernel
theorem dFo_isArithmetic_106 : decode cFo_isArithmetic 106 = .ok (.iconst 0, 1) := by decide +kernel
theorem dFo_isArithmetic_107 : decode cFo_isArithmetic 107 = .ok (.ireturn, 1) := by decide +kernel
theorem dFo_isArithmetic_108 : decode cFo_isArithmetic 108 = .ok (.lload_n 0, 1) := by decide +kernel
theorem dFo_isArithmetic_109 : decode cFo_isArithmetic 109 = .ok (.invokestatic 119, 3) := by decide +kernel
theorem dFo_isArithmetic_112 : decode cFo_isArithmetic 112 = .ok (.ifCond .ne 28, 3) := by decide +kernel
theorem dFo_isArithmetic_115 : decode cFo_isArithmetic 115 = .ok (.lload_n 0, 1) := by decide +kernel
theorem dFo_isArithmetic_116 : decode cFo_isArithmetic 116 = .ok (.invokestatic 116, 3) := by decide +kernel
theorem dFo_isArithmetic_119 : decode cFo_isArithmetic 119 = .ok (.ifCond .eq 21, 3) := by decide +kernel
theorem dFo_isArithmetic_122 : decode cFo_isArithmetic 122 = .ok (.lload_n 0, 1) := by decide +kernel
theorem dFo_isArithmetic_123 : decode cFo_isArithmetic 123 = .ok (.invokestatic 101, 3) := by decide +kernel
theorem dFo_isArithmetic_126 : decode cFo_isArithmetic 126 = .ok (.ifCond .ne 14, 3) := by decide +kernel
theorem dFo_isArithmetic_129 : decode cFo_isArithmetic 129 = .ok (.lload_n 0, 1) := by decide +kernel
theorem dFo_isArithmetic_130 : decode cFo_isArithmetic 130 = .ok (.invokestatic 98, 3) := by decide +kernel
theorem dFo_isArithmetic_133 : decode cFo_isArithmetic 133 = .ok (.ifCond .ne 7, 3) := by decide +kernel
theorem dFo_isArithmetic_136 : decode cFo_isArithmetic 136 = .ok (.iconst 1, 1) := by decide +kernel
theorem dFo_isArithmetic_137 : decode cFo_isArithmetic 137 = .ok (.goto 4, 3) := by decide +kernel
theorem dFo_isArithmetic_140 : decode cFo_isArithmetic 140 = .ok (.iconst 0, 1) := by decide +kernel
theorem dFo_isArithmetic_141 : decode cFo_isArithmetic 141 = .ok (.ireturn, 1) := by decide +kernel
theorem dFo_isArithmetic_142 : decode cFo_isArithmetic 142 = .ok (.lload_n 0, 1) := by decide +kernel
theorem dFo_isArithmetic_143 : decode cFo_isArithmetic 143 = .ok (.invokestatic 116, 3) := by decide +kernel
theorem dFo_isArithmetic_146 : decode cFo_isArithmetic 146 = .ok (.ifCond .eq 14, 3) := by decide +kernel
theorem dFo_isArithmetic_149 : decode cFo_isArithmetic 149 = .ok (.lload_n 0, 1) := by decide +kernel
theorem dFo_isArithmetic_150 : decode cFo_isArithmetic 150 = .ok (.invokestatic 125, 3) := by decide +kernel
theorem dFo_isArithmetic_153 : decode cFo_isArithmetic 153 = .ok (.ifCond .eq 7, 3) := by decide +kernel
theorem dFo_isArithmetic_156 : decode cFo_isArithmetic 156 = .ok (.iconst 1, 1) := by decide +kernel
theorem dFo_isArithmetic_157 : decode cFo_isArithmetic 157 = .ok (.goto 4, 3) := by decide +kernel
theorem dFo_isArithmetic_160 : decode cFo_isArithmetic 160 = .ok (.iconst 0, 1) := by decide +kernel
theorem dFo_isArithmetic_161 : decode cFo_isArithmetic 161 = .ok (.ireturn, 1) := by decide +kernel
theorem dFo_isArithmetic_162 : decode cFo_isArithmetic 162 = .ok (.lload_n 0, 1) := by decide +kernel
theorem dFo_isArithmetic_163 : decode cFo_isArithmetic 163 = .ok (.invokestatic 128, 3) := by decide +kernel
theorem dFo_isArithmetic_166 : decode cFo_isArithmetic 166 = .ok (.ireturn, 1) := by decide +kernel
theorem dFo_isArithmetic_167 : decode cFo_isArithmetic 167 = .ok (.iconst 0, 1) := by decide +kernel
theorem dFo_isArithmetic_168 : decode cFo_isArithmetic 168 = .ok (.ireturn, 1) := by decide +kernel
theorem dFo_isArithmetic_169 : decode cFo_isArithmetic 169 = .ok (.lload_n 0, 1) := by decide +kernel
theorem dFo_isArithmetic_170 : decode cFo_isArithmetic 170 = .ok (.invokestatic 116, 3) := by decide +kernel
theorem dFo_isArithmetic_173 : decode cFo_isArithmetic 173 = .ok (.ifCond .eq 14, 3) := by decide +kernel
theorem dFo_isArithmetic_176 : decode cFo_isArithmetic 176 = .ok (.lload_n 0, 1) := by decide +kernel
theorem dFo_isArithmetic_177 : decode cFo_isArithmetic 177 = .ok (.invokestatic 98, 3) := by decide +kernel
theorem dFo_isArithmetic_180 : decode cFo_isArithmetic 180 = .ok (.ifCond .ne 7, 3) := by decide +kernel
theorem dFo_isArithmetic_183 : decode cFo_isArithmetic 183 = .ok (.iconst 1, 1) := by decide +kernel
theorem dFo_isArithmetic_184 : decode cFo_isArithmetic 184 = .ok (.goto 4, 3) := by decide +kernel
theorem dFo_isArithmetic_187 : decode cFo_isArithmetic 187 = .ok (.iconst 0, 1) := by decide +kernel
theorem dFo_isArithmetic_188 : decode cFo_isArithmetic 188 = .ok (.ireturn, 1) := by decide +kernel
theorem dFo_isMoveOffset_0 : decode cFo_isMoveOffset 0 = .ok (.lload_n 0, 1) := by decide +kernel
theorem dFo_isMoveOffset_1 : decode cFo_isMoveOffset 1 = .ok (.invokestatic 98, 3) := by decide +kernel
theorem dFo_isMoveOffset_4 : decode cFo_isMoveOffset 4 = .ok (.lookupswitch 73 #[(0, 44), (8, 46), (16, 46), (32, 51)], 44) := by decide +kernel
theorem dFo_isMoveOffset_48 : decode cFo_isMoveOffset 48 = .ok (.iconst 1, 1) := by decide +kernel
theorem dFo_isMoveOffset_49 : decode cFo_isMoveOffset 49 = .ok (.ireturn, 1) := by decide +kernel
theorem dFo_isMoveOffset_50 : decode cFo_isMoveOffset 50 = .ok (.lload_n 0, 1) := by decide +kernel
theorem dFo_isMoveOffset_51 : decode cFo_isMoveOffset 51 = .ok (.invokestatic 119, 3) := by decide +kernel
theorem dFo_isMoveOffset_54 : decode cFo_isMoveOffset 54 = .ok (.ireturn, 1) := by decide +kernel
theorem dFo_isMoveOffset_55 : decode cFo_isMoveOffset 55 = .ok (.lload_n 0, 1) := by decide +kernel
theorem dFo_isMoveOffset_56 : decode cFo_isMoveOffset 56 = .ok (.invokestatic 119, 3) := by decide +kernel
theorem dFo_isMoveOffset_59 : decode cFo_isMoveOffset 59 = .ok (.ifCond .eq 16, 3) := by decide +kernel
theorem dFo_isMoveOffset_62 : decode cFo_isMoveOffset 62 = .ok (.lload_n 0, 1) := by decide +kernel
theorem dFo_isMoveOffset_63 : decode cFo_isMoveOffset 63 = .ok (.invokestatic 62, 3) := by decide +kernel
theorem dFo_isMoveOffset_66 : decode cFo_isMoveOffset 66 = .ok (.bipush 7, 2) := by decide +kernel
theorem dFo_isMoveOffset_68 : decode cFo_isMoveOffset 68 = .ok (.if_icmp .ne 7, 3) := by decide +kernel
theorem dFo_isMoveOffset_71 : decode cFo_isMoveOffset 71 = .ok (.iconst 1, 1) := by decide +kernel
theorem dFo_isMoveOffset_72 : decode cFo_isMoveOffset 72 = .ok (.goto 4, 3) := by decide +kernel
theorem dFo_isMoveOffset_75 : decode cFo_isMoveOffset 75 = .ok (.iconst 0, 1) := by decide +kernel
theorem dFo_isMoveOffset_76 : decode cFo_isMoveOffset 76 = .ok (.ireturn, 1) := by decide +kernel
theorem dFo_isMoveOffset_77 : decode cFo_isMoveOffset 77 = .ok (.iconst 0, 1) := by decide +kernel
theorem dFo_isMoveOffset_78 : decode cFo_isMoveOffset 78 = .ok (.ireturn, 1) := by decide +kernel
theorem dFo_isTurning_0 : decode cFo_isTurning 0 = .ok (.lload_n 0, 1) := by decide +kernel
theorem dFo_isTurning_1 : decode cFo_isTurning 1 = .ok (.invokestatic 101, 3) := by decide +kernel
theorem dFo_isTurning_4 : decode cFo_isTurning 4 = .ok (.istore_n 2, 1) := by decide +kernel
theorem dFo_isTurning_5 : decode cFo_isTurning 5 = .ok (.lload_n 0, 1) := by decide +kernel
theorem dFo_isTurning_6 : decode cFo_isTurning 6 = .ok (.invokestatic 62, 3) := by decide +kernel
theorem dFo_isTurning_9 : decode cFo_isTurning 9 = .ok (.iconst 4, 1) := by decide +kernel
theorem dFo_isTurning_10 : decode cFo_isTurning 10 = .ok (.if_icmp .eq 10, 3) := by decide +kernel
theorem dFo_isTurning_13 : decode cFo_isTurning 13 = .ok (.lload_n 0, 1) := by decide +kernel
theorem dFo_isTurning_14 : decode cFo_isTurning 14 = .ok (.invokestatic 119, 3) := by decide +kernel
theorem dFo_isTurning_17 : decode cFo_isTurning 17 = .ok (.ifCond .ne 39, 3) := by decide +kernel
theorem dFo_isTurning_20 : decode cFo_isTurning 20 = .ok (.lload_n 0, 1) := by decide +kernel
theorem dFo_isTurning_21 : decode cFo_isTurning 21 = .ok (.invokestatic 92, 3) := by decide +kernel
theorem dFo_isTurning_24 : decode cFo_isTurning 24 = .ok (.ifCond .ne 32, 3) := by decide +kernel
theorem dFo_isTurning_27 : decode cFo_isTurning 27 = .ok (.lload_n 0, 1) := by decide +kernel
theorem dFo_isTurning_28 : decode cFo_isTurning 28 = .ok (.invokestatic 98, 3) := by decide +kernel
theorem dFo_isTurning_31 : decode cFo_isTurning 31 = .ok (.ifCond .ne 25, 3) := by decide +kernel
theorem dFo_isTurning_34 : decode cFo_isTurning 34 = .ok (.iload_n 2, 1) := by decide +kernel
theorem dFo_isTurning_35 : decode cFo_isTurning 35 = .ok (.bipush 16, 2) := by decide +kernel
theorem dFo_isTurning_37 : decode cFo_isTurning 37 = .ok (.if_icmp .eq 15, 3) := by decide +kernel
theorem dFo_isTurning_40 : decode cFo_isTurning 40 = .ok (.iload_n 2, 1) := by decide +kernel
theorem dFo_isTurning_41 : decode cFo_isTurning 41 = .ok (.bipush 32, 2) := by decide +kernel
theorem dFo_isTurning_43 : decode cFo_isTurning 43 = .ok (.if_icmp .eq 9, 3) := by decide +kernel
theorem dFo_isTurning_46 : decode cFo_isTurning 46 = .ok (.iload_n 2, 1) := by decide +kernel
theorem dFo_isTurning_47 : decode cFo_isTurning 47 = .ok (.bipush 64, 2) := by decide +kernel
theorem dFo_isTurning_49 : decode cFo_isTurning 49 = .ok (.if_icmp .ne 7, 3) := by decide +kernel
theorem dFo_isTurning_52 : decode cFo_isTurning 52 = .ok (.iconst 1, 1) := by decide +kernel
theorem dFo_isTurning_53 : decode cFo_isTurning 53 = .ok (.goto 4, 3) := by decide +kernel
theorem dFo_isTurning_56 : decode cFo_isTurning 56 = .ok (.iconst 0, 1) := by decide +kernel
theorem dFo_isTurning_57 : decode cFo_isTurning 57 = .ok (.ireturn, 1) := by decide +kernel
