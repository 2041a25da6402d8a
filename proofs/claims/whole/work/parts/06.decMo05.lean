theorem dMo_divided_0 : decode cMo_divided 0 = .ok (.lconst 0, 1) := by decide +kernel
theorem dMo_divided_1 : decode cMo_divided 1 = .ok (.lstore 4, 2) := by decide +kernel
theorem dMo_divided_3 : decode cMo_divided 3 = .ok (.lconst 0, 1) := by decide +kernel
theorem dMo_divided_4 : decode cMo_divided 4 = .ok (.lstore 6, 2) := by decide +kernel
theorem dMo_divided_6 : decode cMo_divided 6 = .ok (.bipush 63, 2) := by decide +kernel
theorem dMo_divided_8 : decode cMo_divided 8 = .ok (.istore 8, 2) := by decide +kernel
theorem dMo_divided_10 : decode cMo_divided 10 = .ok (.iload 8, 2) := by decide +kernel
theorem dMo_divided_12 : decode cMo_divided 12 = .ok (.ifCond .lt 78, 3) := by decide +kernel
theorem dMo_divided_15 : decode cMo_divided 15 = .ok (.lload_n 2, 1) := by decide +kernel
theorem dMo_divided_16 : decode cMo_divided 16 = .ok (.lconst 0, 1) := by decide +kernel
theorem dMo_divided_17 : decode cMo_divided 17 = .ok (.lcmp, 1) := by decide +kernel
theorem dMo_divided_18 : decode cMo_divided 18 = .ok (.ifCond .eq 72, 3) := by decide +kernel
theorem dMo_divided_21 : decode cMo_divided 21 = .ok (.lload 6, 2) := by decide +kernel
theorem dMo_divided_23 : decode cMo_divided 23 = .ok (.lconst 0, 1) := by decide +kernel
theorem dMo_divided_24 : decode cMo_divided 24 = .ok (.lcmp, 1) := by decide +kernel
theorem dMo_divided_25 : decode cMo_divided 25 = .ok (.ifCond .ge 7, 3) := by decide +kernel
theorem dMo_divided_28 : decode cMo_divided 28 = .ok (.iconst 1, 1) := by decide +kernel
theorem dMo_divided_29 : decode cMo_divided 29 = .ok (.goto 4, 3) := by decide +kernel
theorem dMo_divided_32 : decode cMo_divided 32 = .ok (.iconst 0, 1) := by decide +kernel
theorem dMo_divided_33 : decode cMo_divided 33 = .ok (.istore 9, 2) := by decide +kernel
theorem dMo_divided_35 : decode cMo_divided 35 = .ok (.ldc2_w 124, 3) := by decide +kernel
theorem dMo_divided_38 : decode cMo_divided 38 = .ok (.lload 6, 2) := by decide +kernel
theorem dMo_divided_40 : decode cMo_divided 40 = .ok (.lmul, 1) := by decide +kernel
theorem dMo_divided_41 : decode cMo_divided 41 = .ok (.lload_n 0, 1) := by decide +kernel
theorem dMo_divided_42 : decode cMo_divided 42 = .ok (.iload 8, 2) := by decide +kernel
theorem dMo_divided_44 : decode cMo_divided 44 = .ok (.lshr, 1) := by decide +kernel
theorem dMo_divided_45 : decode cMo_divided 45 = .ok (.lconst 1, 1) := by decide +kernel
theorem dMo_divided_46 : decode cMo_divided 46 = .ok (.land, 1) := by decide +kernel
theorem dMo_divided_47 : decode cMo_divided 47 = .ok (.ladd, 1) := by decide +kernel
theorem dMo_divided_48 : decode cMo_divided 48 = .ok (.lstore 6, 2) := by decide +kernel
theorem dMo_divided_50 : decode cMo_divided 50 = .ok (.ldc2_w 124, 3) := by decide +kernel
theorem dMo_divided_53 : decode cMo_divided 53 = .ok (.lload 4, 2) := by decide +kernel
theorem dMo_divided_55 : decode cMo_divided 55 = .ok (.lmul, 1) := by decide +kernel
theorem dMo_divided_56 : decode cMo_divided 56 = .ok (.lstore 4, 2) := by decide +kernel
theorem dMo_divided_58 : decode cMo_divided 58 = .ok (.iload 9, 2) := by decide +kernel
theorem dMo_divided_60 : decode cMo_divided 60 = .ok (.ifCond .ne 12, 3) := by decide +kernel
theorem dMo_divided_63 : decode cMo_divided 63 = .ok (.lload 6, 2) := by decide +kernel
theorem dMo_divided_65 : decode cMo_divided 65 = .ok (.lload_n 2, 1) := by decide +kernel
theorem dMo_divided_66 : decode cMo_divided 66 = .ok (.invokestatic 126, 3) := by decide +kernel
theorem dMo_divided_69 : decode cMo_divided 69 = .ok (.ifCond .ne 15, 3) := by decide +kernel
theorem dMo_divided_72 : decode cMo_divided 72 = .ok (.lload 6, 2) := by decide +kernel
theorem dMo_divided_74 : decode cMo_divided 74 = .ok (.lload_n 2, 1) := by decide +kernel
theorem dMo_divided_75 : decode cMo_divided 75 = .ok (.lsub, 1) := by decide +kernel
theorem dMo_divided_76 : decode cMo_divided 76 = .ok (.lstore 6, 2) := by decide +kernel
theorem dMo_divided_78 : decode cMo_divided 78 = .ok (.lload 4, 2) := by decide +kernel
theorem dMo_divided_80 : decode cMo_divided 80 = .ok (.lconst 1, 1) := by decide +kernel
theorem dMo_divided_81 : decode cMo_divided 81 = .ok (.ladd, 1) := by decide +kernel
theorem dMo_divided_82 : decode cMo_divided 82 = .ok (.lstore 4, 2) := by decide +kernel
theorem dMo_divided_84 : decode cMo_divided 84 = .ok (.iinc 8 (-1), 3) := by decide +kernel
theorem dMo_divided_87 : decode cMo_divided 87 = .ok (.goto (-77), 3) := by decide +kernel
theorem dMo_divided_90 : decode cMo_divided 90 = .ok (.lload 4, 2) := by decide +kernel
theorem dMo_divided_92 : decode cMo_divided 92 = .ok (.lreturn, 1) := by decide +kernel
theorem dMo_quotient_0 : decode cMo_quotient 0 = .ok (.iload 4, 2) := by decide +kernel
theorem dMo_quotient_2 : decode cMo_quotient 2 = .ok (.ifCond .eq 13, 3) := by decide +kernel
theorem dMo_quotient_5 : decode cMo_quotient 5 = .ok (.lload_n 0, 1) := by decide +kernel
theorem dMo_quotient_6 : decode cMo_quotient 6 = .ok (.lconst 0, 1) := by decide +kernel
theorem dMo_quotient_7 : decode cMo_quotient 7 = .ok (.lcmp, 1) := by decide +kernel
theorem dMo_quotient_8 : decode cMo_quotient 8 = .ok (.ifCond .ge 7, 3) := by decide +kernel
theorem dMo_quotient_11 : decode cMo_quotient 11 = .ok (.iconst 1, 1) := by decide +kernel
theorem dMo_quotient_12 : decode cMo_quotient 12 = .ok (.goto 4, 3) := by decide +kernel
theorem dMo_quotient_15 : decode cMo_quotient 15 = .ok (.iconst 0, 1) := by decide +kernel
theorem dMo_quotient_16 : decode cMo_quotient 16 = .ok (.istore 5, 2) := by decide +kernel
theorem dMo_quotient_18 : decode cMo_quotient 18 = .ok (.iload 4, 2) := by decide +kernel
theorem dMo_quotient_20 : decode cMo_quotient 20 = .ok (.ifCond .eq 13, 3) := by decide +kernel
theorem dMo_quotient_23 : decode cMo_quotient 23 = .ok (.lload_n 2, 1) := by decide +kernel
theorem dMo_quotient_24 : decode cMo_quotient 24 = .ok (.lconst 0, 1) := by decide +kernel
theorem dMo_quotient_25 : decode cMo_quotient 25 = .ok (.lcmp, 1) := by decide +kernel
theorem dMo_quotient_26 : decode cMo_quotient 26 = .ok (.ifCond .ge 7, 3) := by decide +kernel
theorem dMo_quotient_29 : decode cMo_quotient 29 = .ok (.iconst 1, 1) := by decide +kernel
theorem dMo_quotient_30 : decode cMo_quotient 30 = .ok (.goto 4, 3) := by decide +kernel
theorem dMo_quotient_33 : decode cMo_quotient 33 = .ok (.iconst 0, 1) := by decide +kernel
theorem dMo_quotient_34 : decode cMo_quotient 34 = .ok (.istore 6, 2) := by decide +kernel
theorem dMo_quotient_36 : decode cMo_quotient 36 = .ok (.iload 5, 2) := by decide +kernel
theorem dMo_quotient_38 : decode cMo_quotient 38 = .ok (.ifCond .eq 8, 3) := by decide +kernel
theorem dMo_quotient_41 : decode cMo_quotient 41 = .ok (.lload_n 0, 1) := by decide +kernel
theorem dMo_quotient_42 : decode cMo_quotient 42 = .ok (.lneg, 1) := by decide +kernel
theorem dMo_quotient_43 : decode cMo_quotient 43 = .ok (.goto 4, 3) := by decide +kernel
theorem dMo_quotient_46 : decode cMo_quotient 46 = .ok (.lload_n 0, 1) := by decide +kernel
theorem dMo_quotient_47 : decode cMo_quotient 47 = .ok (.iload 6, 2) := by decide +kernel
theorem dMo_quotient_49 : decode cMo_quotient 49 = .ok (.ifCond .eq 8, 3) := by decide +kernel
theorem dMo_quotient_52 : decode cMo_quotient 52 = .ok (.lload_n 2, 1) := by decide +kernel
theorem dMo_quotient_53 : decode cMo_quotient 53 = .ok (.lneg, 1) := by decide +kernel
theorem dMo_quotient_54 : decode cMo_quotient 54 = .ok (.goto 4, 3) := by decide +kernel
theorem dMo_quotient_57 : decode cMo_quotient 57 = .ok (.lload_n 2, 1) := by decide +kernel
theorem dMo_quotient_58 : decode cMo_quotient 58 = .ok (.invokestatic 130, 3) := by decide +kernel
theorem dMo_quotient_61 : decode cMo_quotient 61 = .ok (.lstore 7, 2) := by decide +kernel
theorem dMo_quotient_63 : decode cMo_quotient 63 = .ok (.iload 5, 2) := by decide +kernel
theorem dMo_quotient_65 : decode cMo_quotient 65 = .ok (.iload 6, 2) := by decide +kernel
theorem dMo_quotient_67 : decode cMo_quotient 67 = .ok (.if_icmp .eq 9, 3) := by decide +kernel
theorem dMo_quotient_70 : decode cMo_quotient 70 = .ok (.lload 7, 2) := by decide +kernel
theorem dMo_quotient_72 : decode cMo_quotient 72 = .ok (.lneg, 1) := by decide +kernel
theorem dMo_quotient_73 : decode cMo_quotient 73 = .ok (.goto 5, 3) := by decide +kernel
theorem dMo_quotient_76 : decode cMo_quotient 76 = .ok (.lload 7, 2) := by decide +kernel
theorem dMo_quotient_78 : decode cMo_quotient 78 = .ok (.lreturn, 1) := by decide +kernel
theorem dMo_turned_0 : decode cMo_turned 0 = .ok (.lconst 0, 1) := by decide +kernel
theorem dMo_turned_1 : decode cMo_turned 1 = .ok (.lstore_n 3, 1) := by decide +kernel
theorem dMo_turned_2 : decode cMo_turned 2 = .ok (.iconst 0, 1) := by decide +kernel
theorem dMo_turned_3 : decode cMo_turned 3 = .ok (.istore 5, 2) := by decide +kernel
theorem dMo_turned_5 : decode cMo_turned 5 = .ok (.iload 5, 2) := by decide +kernel
theorem dMo_turned_7 : decode cMo_turned 7 = .ok (.iload_n 2, 1) := by decide +kernel
theorem dMo_turned_8 : decode cMo_turned 8 = .ok (.if_icmp .ge 28, 3) := by decide +kernel
theorem dMo_turned_11 : decode cMo_turned 11 = .ok (.ldc2_w 111, 3) := by decide +kernel
theorem dMo_turned_14 : decode cMo_turned 14 = .ok (.lload_n 3, 1) := by decide +kernel
theorem dMo_turned_15 : decode cMo_turned 15 = .ok (.lmul, 1) := by decide +kernel
theorem dMo_turned_16 : decode cMo_turned 16 = .ok (.lload_n 0, 1) := by decide +kernel
theorem dMo_turned_17 : decode cMo_turned 17 = .ok (.iload 5, 2) := by decide +kernel
theorem dMo_turned_19 : decode cMo_turned 19 = .ok (.lushr, 1) := by decide +kernel
theorem dMo_turned_20 : decode cMo_turned 20 = .ok (.ldc2_w 134, 3) := by decide +kernel
theorem dMo_turned_23 : decode cMo_turned 23 = .ok (.land, 1) := by decide +kernel
theorem dMo_turned_24 : decode cMo_turned 24 = .ok (.ladd, 1) := by decide +kernel
theorem dMo_turned_25 : decode cMo_turned 25 = .ok (.lstore_n 3, 1) := by decide +kernel
theorem dMo_turned_26 : decode cMo_turned 26 = .ok (.iload 5, 2) := by decide +kernel
theorem dMo_turned_28 : decode cMo_turned 28 = .ok (.bipush 8, 2) := by decide +kernel
theorem dMo_turned_30 : decode cMo_turned 30 = .ok (.iadd, 1) := by decide +kernel
theorem dMo_turned_31 : decode cMo_turned 31 = .ok (.istore 5, 2) := by decide +kernel
theorem dMo_turned_33 : decode cMo_turned 33 = .ok (.goto (-28), 3) := by decide +kernel
theorem dMo_turned_36 : decode cMo_turned 36 = .ok (.lload_n 3, 1) := by decide +kernel
theorem dMo_turned_37 : decode cMo_turned 37 = .ok (.lreturn, 1) := by decide +kernel
theorem dMo_signed_0 : decode cMo_signed 0 = .ok (.lconst 1, 1) := by decide +kernel
theorem dMo_signed_1 : decode cMo_signed 1 = .ok (.iload_n 2, 1) := by decide +kernel
theorem dMo_signed_2 : decode cMo_signed 2 = .ok (.iconst 1, 1) := by decide +kernel
theorem dMo_signed_3 : decode cMo_signed 3 = .ok (.isub, 1) := by decide +kernel
theorem dMo_signed_4 : decode cMo_signed 4 = .ok (.lshl, 1) := by decide +kernel
theorem dMo_signed_5 : decode cMo_signed 5 = .ok (.lstore_n 3, 1) := by decide +kernel
theorem dMo_signed_6 : decode cMo_signed 6 = .ok (.iload_n 2, 1) := by decide +kernel
theorem dMo_signed_7 : decode cMo_signed 7 = .ok (.bipush 64, 2) := by decide +kernel
theorem dMo_signed_9 : decode cMo_signed 9 = .ok (.if_icmp .ne 7, 3) := by decide +kernel
theorem dMo_signed_12 : decode cMo_signed 12 = .ok (.lload_n 0, 1) := by decide +kernel
theorem dMo_signed_13 : decode cMo_signed 13 = .ok (.goto 12, 3) := by decide +kernel
theorem dMo_signed_16 : decode cMo_signed 16 = .ok (.lload_n 0, 1) := by decide +kernel
theorem dMo_signed_17 : decode cMo_signed 17 = .ok (.ldc2_w 124, 3) := by decide +kernel
theorem dMo_signed_20 : decode cMo_signed 20 = .ok (.lload_n 3, 1) := by decide +kernel
theorem dMo_signed_21 : decode cMo_signed 21 = .ok (.lmul, 1) := by decide +kernel
theorem dMo_signed_22 : decode cMo_signed 22 = .ok (.lconst 1, 1) := by decide +kernel
theorem dMo_signed_23 : decode cMo_signed 23 = .ok (.lsub, 1) := by decide +kernel
theorem dMo_signed_24 : decode cMo_signed 24 = .ok (.land, 1) := by decide +kernel
theorem dMo_signed_25 : decode cMo_signed 25 = .ok (.lstore 5, 2) := by decide +kernel
theorem dMo_signed_27 : decode cMo_signed 27 = .ok (.iload_n 2, 1) := by decide +kernel
theorem dMo_signed_28 : decode cMo_signed 28 = .ok (.bipush 64, 2) := by decide +kernel
theorem dMo_signed_30 : decode cMo_signed 30 = .ok (.if_icmp .ge 21, 3) := by decide +kernel
theorem dMo_signed_33 : decode cMo_signed 33 = .ok (.lload 5, 2) := by decide +kernel
theorem dMo_signed_35 : decode cMo_signed 35 = .ok (.lload_n 3, 1) := by decide +kernel
theorem dMo_signed_36 : decode cMo_signed 36 = .ok (.lcmp, 1) := by decide +kernel
theorem dMo_signed_37 : decode cMo_signed 37 = .ok (.ifCond .lt 14, 3) := by decide +kernel
theorem dMo_signed_40 : decode cMo_signed 40 = .ok (.lload 5, 2) := by decide +kernel
theorem dMo_signed_42 : decode cMo_signed 42 = .ok (.ldc2_w 124, 3) := by decide +kernel
theorem dMo_signed_45 : decode cMo_signed 45 = .ok (.lload_n 3, 1) := by decide +kernel
theorem dMo_signed_46 : decode cMo_signed 46 = .ok (.lmul, 1) := by decide +kernel
theorem dMo_signed_47 : decode cMo_signed 47 = .ok (.lsub, 1) := by decide +kernel
theorem dMo_signed_48 : decode cMo_signed 48 = .ok (.goto 5, 3) := by decide +kernel
theorem dMo_signed_51 : decode cMo_signed 51 = .ok (.lload 5, 2) := by decide +kernel
theorem dMo_signed_53 : decode cMo_signed 53 = .ok (.lreturn, 1) := by decide +kernel
theorem dMo_lowest_0 : decode cMo_lowest 0 = .ok (.iload_n 2, 1) := by decide +kernel
theorem dMo_lowest_1 : decode cMo_lowest 1 = .ok (.bipush 64, 2) := by decide +kernel
theorem dMo_lowest_3 : decode cMo_lowest 3 = .ok (.if_icmp .ne 7, 3) := by decide +kernel
theorem dMo_lowest_6 : decode cMo_lowest 6 = .ok (.lload_n 0, 1) := by decide +kernel
theorem dMo_lowest_7 : decode cMo_lowest 7 = .ok (.goto 10, 3) := by decide +kernel
theorem dMo_lowest_10 : decode cMo_lowest 10 = .ok (.lload_n 0, 1) := by decide +kernel
theorem dMo_lowest_11 : decode cMo_lowest 11 = .ok (.lconst 1, 1) := by decide +kernel
theorem dMo_lowest_12 : decode cMo_lowest 12 = .ok (.iload_n 2, 1) := by decide +kernel
theorem dMo_lowest_13 : decode cMo_lowest 13 = .ok (.lshl, 1) := by decide +kernel
theorem dMo_lowest_14 : decode cMo_lowest 14 = .ok (.lconst 1, 1) := by decide +kernel
theorem dMo_lowest_15 : decode cMo_lowest 15 = .ok (.lsub, 1) := by decide +kernel
theorem dMo_lowest_16 : decode cMo_lowest 16 = .ok (.land, 1) := by decide +kernel
theorem dMo_lowest_17 : decode cMo_lowest 17 = .ok (.lreturn, 1) := by decide +kernel
theorem dMo_reckoned_0 : decode cMo_reckoned 0 = .ok (.aload_n 0, 1) := by decide +kernel
theorem dMo_reckoned_1 : decode cMo_reckoned 1 = .ok (.getfield 47, 3) := by decide +kernel
theorem dMo_reckoned_4 : decode cMo_reckoned 4 = .ok (.iconst 1, 1) := by decide +kernel
theorem dMo_reckoned_5 : decode cMo_reckoned 5 = .ok (.if_icmp .ne 7, 3) := by decide +kernel
theorem dMo_reckoned_8 : decode cMo_reckoned 8 = .ok (.iconst 1, 1) := by decide +kernel
theorem dMo_reckoned_9 : decode cMo_reckoned 9 = .ok (.goto 4, 3) := by decide +kernel
theorem dMo_reckoned_12 : decode cMo_reckoned 12 = .ok (.iconst 0, 1) := by decide +kernel
theorem dMo_reckoned_13 : decode cMo_reckoned 13 = .ok (.istore 6, 2) := by decide +kernel
theorem dMo_reckoned_15 : decode cMo_reckoned 15 = .ok (.iload 6, 2) := by decide +kernel
theorem dMo_reckoned_17 : decode cMo_reckoned 17 = .ok (.ifCond .eq 7, 3) := by decide +kernel
theorem dMo_reckoned_20 : decode cMo_reckoned 20 = .ok (.lload_n 1, 1) := by decide +kernel
theorem dMo_reckoned_21 : decode cMo_reckoned 21 = .ok (.goto 9, 3) := by decide +kernel
theorem dMo_reckoned_24 : decode cMo_reckoned 24 = .ok (.lload_n 1, 1) := by decide +kernel
theorem dMo_reckoned_25 : decode cMo_reckoned 25 = .ok (.iload 5, 2) := by decide +kernel
theorem dMo_reckoned_27 : decode cMo_reckoned 27 = .ok (.invokestatic 136, 3) := by decide +kernel
theorem dMo_reckoned_30 : decode cMo_reckoned 30 = .ok (.lstore 7, 2) := by decide +kernel
theorem dMo_reckoned_32 : decode cMo_reckoned 32 = .ok (.iload 6, 2) := by decide +kernel
theorem dMo_reckoned_34 : decode cMo_reckoned 34 = .ok (.ifCond .eq 7, 3) := by decide +kernel
theorem dMo_reckoned_37 : decode cMo_reckoned 37 = .ok (.lload_n 3, 1) := by decide +kernel
theorem dMo_reckoned_38 : decode cMo_reckoned 38 = .ok (.goto 9, 3) := by decide +kernel
theorem dMo_reckoned_41 : decode cMo_reckoned 41 = .ok (.lload_n 3, 1) := by decide +kernel
theorem dMo_reckoned_42 : decode cMo_reckoned 42 = .ok (.iload 5, 2) := by decide +kernel
theorem dMo_reckoned_44 : decode cMo_reckoned 44 = .ok (.invokestatic 136, 3) := by decide +kernel
theorem dMo_reckoned_47 : decode cMo_reckoned 47 = .ok (.lstore 9, 2) := by decide +kernel
theorem dMo_reckoned_49 : decode cMo_reckoned 49 = .ok (.lload_n 3, 1) := by decide +kernel
theorem dMo_reckoned_50 : decode cMo_reckoned 50 = .ok (.iload 5, 2) := by decide +kernel
theorem dMo_reckoned_52 : decode cMo_reckoned 52 = .ok (.iconst 1, 1) := by decide +kernel
theorem dMo_reckoned_53 : decode cMo_reckoned 53 = .ok (.isub, 1) := by decide +kernel
theorem dMo_reckoned_54 : decode cMo_reckoned 54 = .ok (.i2l, 1) := by decide +kernel
theorem dMo_reckoned_55 : decode cMo_reckoned 55 = .ok (.land, 1) := by decide +kernel
theorem dMo_reckoned_56 : decode cMo_reckoned 56 = .ok (.l2i, 1) := by decide +kernel
theorem dMo_reckoned_57 : decode cMo_reckoned 57 = .ok (.istore 11, 2) := by decide +kernel
theorem dMo_reckoned_59 : decode cMo_reckoned 59 = .ok (.aload_n 0, 1) := by decide +kernel
theorem dMo_reckoned_60 : decode cMo_reckoned 60 = .ok (.invokevirtual 61, 3) := by decide +kernel
theorem dMo_reckoned_63 : decode cMo_reckoned 63 = .ok (.tableswitch 149 0 11 #[61, 65, 69, 73, 83, 87, 91, 96, 106, 109, 125, 129], 61) := by decide +kernel
theorem dMo_reckoned_124 : decode cMo_reckoned 124 = .ok (.lload_n 1, 1) := by decide +kernel
theorem dMo_reckoned_125 : decode cMo_reckoned 125 = .ok (.lload_n 3, 1) := by decide +kernel
theorem dMo_reckoned_126 : decode cMo_reckoned 126 = .ok (.ladd, 1) := by decide +kernel
theorem dMo_reckoned_127 : decode cMo_reckoned 127 = .ok (.lreturn, 1) := by decide +kernel
theorem dMo_reckoned_128 : decode cMo_reckoned 128 = .ok (.lload_n 1, 1) := by decide +kernel
theorem dMo_reckoned_129 : decode cMo_reckoned 129 = .ok (.lload_n 3, 1) := by decide +kernel
theorem dMo_reckoned_130 : decode cMo_reckoned 130 = .ok (.lsub, 1) := by decide +kernel
theorem dMo_reckoned_131 : decode cMo_reckoned 131 = .ok (.lreturn, 1) := by decide +kernel
theorem dMo_reckoned_132 : decode cMo_reckoned 132 = .ok (.lload_n 1, 1) := by decide +kernel
theorem dMo_reckoned_133 : decode cMo_reckoned 133 = .ok (.lload_n 3, 1) := by decide +kernel
theorem dMo_reckoned_134 : decode cMo_reckoned 134 = .ok (.lmul, 1) := by decide +kernel
theorem dMo_reckoned_135 : decode cMo_reckoned 135 = .ok (.lreturn, 1) := by decide +kernel
theorem dMo_reckoned_136 : decode cMo_reckoned 136 = .ok (.lload 7, 2) := by decide +kernel
theorem dMo_reckoned_138 : decode cMo_reckoned 138 = .ok (.lload 9, 2) := by decide +kernel
theorem dMo_reckoned_140 : decode cMo_reckoned 140 = .ok (.iload 6, 2) := by decide +kernel
theorem dMo_reckoned_142 : decode cMo_reckoned 142 = .ok (.invokestatic 139, 3) := by decide +kernel
theorem dMo_reckoned_145 : decode cMo_reckoned 145 = .ok (.lreturn, 1) := by decide +kernel
theorem dMo_reckoned_146 : decode cMo_reckoned 146 = .ok (.lload_n 1, 1) := by decide +kernel
theorem dMo_reckoned_147 : decode cMo_reckoned 147 = .ok (.lload_n 3, 1) := by decide +kernel
theorem dMo_reckoned_148 : decode cMo_reckoned 148 = .ok (.lor, 1) := by decide +kernel
theorem dMo_reckoned_149 : decode cMo_reckoned 149 = .ok (.lreturn, 1) := by decide +kernel
theorem dMo_reckoned_150 : decode cMo_reckoned 150 = .ok (.lload_n 1, 1) := by decide +kernel
theorem dMo_reckoned_151 : decode cMo_reckoned 151 = .ok (.lload_n 3, 1) := by decide +kernel
theorem dMo_reckoned_152 : decode cMo_reckoned 152 = .ok (.land, 1) := by decide +kernel
theorem dMo_reckoned_153 : decode cMo_reckoned 153 = .ok (.lreturn, 1) := by decide +kernel
theorem dMo_reckoned_154 : decode cMo_reckoned 154 = .ok (.lload_n 1, 1) := by decide +kernel
theorem dMo_reckoned_155 : decode cMo_reckoned 155 = .ok (.iload 11, 2) := by decide +kernel
theorem dMo_reckoned_157 : decode cMo_reckoned 157 = .ok (.lshl, 1) := by decide +kernel
theorem dMo_reckoned_158 : decode cMo_reckoned 158 = .ok (.lreturn, 1) := by decide +kernel
theorem dMo_reckoned_159 : decode cMo_reckoned 159 = .ok (.lload_n 1, 1) := by decide +kernel
theorem dMo_reckoned_160 : decode cMo_reckoned 160 = .ok (.iload 5, 2) := by decide +kernel
theorem dMo_reckoned_162 : decode cMo_reckoned 162 = .ok (.invokestatic 136, 3) := by decide +kernel
theorem dMo_reckoned_165 : decode cMo_reckoned 165 = .ok (.iload 11, 2) := by decide +kernel
theorem dMo_reckoned_167 : decode cMo_reckoned 167 = .ok (.lushr, 1) := by decide +kernel
theorem dMo_reckoned_168 : decode cMo_reckoned 168 = .ok (.lreturn, 1) := by decide +kernel
theorem dMo_reckoned_169 : decode cMo_reckoned 169 = .ok (.lload_n 1, 1) := by decide +kernel
theorem dMo_reckoned_170 : decode cMo_reckoned 170 = .ok (.lneg, 1) := by decide +kernel
theorem dMo_reckoned_171 : decode cMo_reckoned 171 = .ok (.lreturn, 1) := by decide +kernel
theorem dMo_reckoned_172 : decode cMo_reckoned 172 = .ok (.lload 7, 2) := by decide +kernel
theorem dMo_reckoned_174 : decode cMo_reckoned 174 = .ok (.lload 7, 2) := by decide +kernel
theorem dMo_reckoned_176 : decode cMo_reckoned 176 = .ok (.lload 9, 2) := by decide +kernel
theorem dMo_reckoned_178 : decode cMo_reckoned 178 = .ok (.iload 6, 2) := by decide +kernel
theorem dMo_reckoned_180 : decode cMo_reckoned 180 = .ok (.invokestatic 139, 3) := by decide +kernel
theorem dMo_reckoned_183 : decode cMo_reckoned 183 = .ok (.lload 9, 2) := by decide +kernel
theorem dMo_reckoned_185 : decode cMo_reckoned 185 = .ok (.lmul, 1) := by decide +kernel
theorem dMo_reckoned_186 : decode cMo_reckoned 186 = .ok (.lsub, 1) := by decide +kernel
theorem dMo_reckoned_187 : decode cMo_reckoned 187 = .ok (.lreturn, 1) := by decide +kernel
theorem dMo_reckoned_188 : decode cMo_reckoned 188 = .ok (.lload_n 1, 1) := by decide +kernel
theorem dMo_reckoned_189 : decode cMo_reckoned 189 = .ok (.lload_n 3, 1) := by decide +kernel
theorem dMo_reckoned_190 : decode cMo_reckoned 190 = .ok (.lxor, 1) := by decide +kernel
theorem dMo_reckoned_191 : decode cMo_reckoned 191 = .ok (.lreturn, 1) := by decide +kernel
theorem dMo_reckoned_192 : decode cMo_reckoned 192 = .ok (.aload_n 0, 1) := by decide +kernel
theorem dMo_reckoned_193 : decode cMo_reckoned 193 = .ok (.getfield 47, 3) := by decide +kernel
theorem dMo_reckoned_196 : decode cMo_reckoned 196 = .ok (.ifCond .ne 7, 3) := by decide +kernel
theorem dMo_reckoned_199 : decode cMo_reckoned 199 = .ok (.lload_n 3, 1) := by decide +kernel
theorem dMo_reckoned_200 : decode cMo_reckoned 200 = .ok (.goto 11, 3) := by decide +kernel
theorem dMo_reckoned_203 : decode cMo_reckoned 203 = .ok (.lload_n 3, 1) := by decide +kernel
theorem dMo_reckoned_204 : decode cMo_reckoned 204 = .ok (.aload_n 0, 1) := by decide +kernel
theorem dMo_reckoned_205 : decode cMo_reckoned 205 = .ok (.getfield 47, 3) := by decide +kernel
theorem dMo_reckoned_208 : decode cMo_reckoned 208 = .ok (.invokestatic 143, 3) := by decide +kernel
theorem dMo_reckoned_211 : decode cMo_reckoned 211 = .ok (.lreturn, 1) := by decide +kernel
theorem dMo_reckoned_212 : decode cMo_reckoned 212 = .ok (.lload_n 1, 1) := by decide +kernel
theorem dMo_reckoned_213 : decode cMo_reckoned 213 = .ok (.iload 11, 2) := by decide +kernel
theorem dMo_reckoned_215 : decode cMo_reckoned 215 = .ok (.lshr, 1) := by decide +kernel
theorem dMo_reckoned_216 : decode cMo_reckoned 216 = .ok (.lreturn, 1) := by decide +kernel
