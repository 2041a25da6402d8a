theorem dMe_init_0 : decode cMe_init 0 = .ok (.aload_n 0, 1) := by decide +kernel
theorem dMe_init_1 : decode cMe_init 1 = .ok (.invokespecial 1, 3) := by decide +kernel
theorem dMe_init_4 : decode cMe_init 4 = .ok (.aload_n 0, 1) := by decide +kernel
theorem dMe_init_5 : decode cMe_init 5 = .ok (.sipush 4096, 3) := by decide +kernel
theorem dMe_init_8 : decode cMe_init 8 = .ok (.newarray .byte, 2) := by decide +kernel
theorem dMe_init_10 : decode cMe_init 10 = .ok (.putfield 9, 3) := by decide +kernel
theorem dMe_init_13 : decode cMe_init 13 = .ok (.return_, 1) := by decide +kernel
theorem dMe_holds_0 : decode cMe_holds 0 = .ok (.lload_n 1, 1) := by decide +kernel
theorem dMe_holds_1 : decode cMe_holds 1 = .ok (.ldc2_w 13, 3) := by decide +kernel
theorem dMe_holds_4 : decode cMe_holds 4 = .ok (.lsub, 1) := by decide +kernel
theorem dMe_holds_5 : decode cMe_holds 5 = .ok (.lstore 4, 2) := by decide +kernel
theorem dMe_holds_7 : decode cMe_holds 7 = .ok (.lload 4, 2) := by decide +kernel
theorem dMe_holds_9 : decode cMe_holds 9 = .ok (.lconst 0, 1) := by decide +kernel
theorem dMe_holds_10 : decode cMe_holds 10 = .ok (.lcmp, 1) := by decide +kernel
theorem dMe_holds_11 : decode cMe_holds 11 = .ok (.ifCond .lt 19, 3) := by decide +kernel
theorem dMe_holds_14 : decode cMe_holds 14 = .ok (.lload 4, 2) := by decide +kernel
theorem dMe_holds_16 : decode cMe_holds 16 = .ok (.sipush 4096, 3) := by decide +kernel
theorem dMe_holds_19 : decode cMe_holds 19 = .ok (.iload_n 3, 1) := by decide +kernel
theorem dMe_holds_20 : decode cMe_holds 20 = .ok (.isub, 1) := by decide +kernel
theorem dMe_holds_21 : decode cMe_holds 21 = .ok (.i2l, 1) := by decide +kernel
theorem dMe_holds_22 : decode cMe_holds 22 = .ok (.lcmp, 1) := by decide +kernel
theorem dMe_holds_23 : decode cMe_holds 23 = .ok (.ifCond .gt 7, 3) := by decide +kernel
theorem dMe_holds_26 : decode cMe_holds 26 = .ok (.iconst 1, 1) := by decide +kernel
theorem dMe_holds_27 : decode cMe_holds 27 = .ok (.goto 4, 3) := by decide +kernel
theorem dMe_holds_30 : decode cMe_holds 30 = .ok (.iconst 0, 1) := by decide +kernel
theorem dMe_holds_31 : decode cMe_holds 31 = .ok (.ireturn, 1) := by decide +kernel
theorem dMe_read_0 : decode cMe_read 0 = .ok (.aload_n 0, 1) := by decide +kernel
theorem dMe_read_1 : decode cMe_read 1 = .ok (.lload_n 1, 1) := by decide +kernel
theorem dMe_read_2 : decode cMe_read 2 = .ok (.iload_n 3, 1) := by decide +kernel
theorem dMe_read_3 : decode cMe_read 3 = .ok (.invokevirtual 15, 3) := by decide +kernel
theorem dMe_read_6 : decode cMe_read 6 = .ok (.ifCond .ne 5, 3) := by decide +kernel
theorem dMe_read_9 : decode cMe_read 9 = .ok (.lconst 0, 1) := by decide +kernel
theorem dMe_read_10 : decode cMe_read 10 = .ok (.lreturn, 1) := by decide +kernel
theorem dMe_read_11 : decode cMe_read 11 = .ok (.lload_n 1, 1) := by decide +kernel
theorem dMe_read_12 : decode cMe_read 12 = .ok (.ldc2_w 13, 3) := by decide +kernel
theorem dMe_read_15 : decode cMe_read 15 = .ok (.lsub, 1) := by decide +kernel
theorem dMe_read_16 : decode cMe_read 16 = .ok (.l2i, 1) := by decide +kernel
theorem dMe_read_17 : decode cMe_read 17 = .ok (.istore 4, 2) := by decide +kernel
theorem dMe_read_19 : decode cMe_read 19 = .ok (.lconst 0, 1) := by decide +kernel
theorem dMe_read_20 : decode cMe_read 20 = .ok (.lstore 5, 2) := by decide +kernel
theorem dMe_read_22 : decode cMe_read 22 = .ok (.iload_n 3, 1) := by decide +kernel
theorem dMe_read_23 : decode cMe_read 23 = .ok (.iconst 1, 1) := by decide +kernel
theorem dMe_read_24 : decode cMe_read 24 = .ok (.isub, 1) := by decide +kernel
theorem dMe_read_25 : decode cMe_read 25 = .ok (.istore 7, 2) := by decide +kernel
theorem dMe_read_27 : decode cMe_read 27 = .ok (.iload 7, 2) := by decide +kernel
theorem dMe_read_29 : decode cMe_read 29 = .ok (.ifCond .lt 32, 3) := by decide +kernel
theorem dMe_read_32 : decode cMe_read 32 = .ok (.lload 5, 2) := by decide +kernel
theorem dMe_read_34 : decode cMe_read 34 = .ok (.bipush 8, 2) := by decide +kernel
theorem dMe_read_36 : decode cMe_read 36 = .ok (.lshl, 1) := by decide +kernel
theorem dMe_read_37 : decode cMe_read 37 = .ok (.aload_n 0, 1) := by decide +kernel
theorem dMe_read_38 : decode cMe_read 38 = .ok (.getfield 9, 3) := by decide +kernel
theorem dMe_read_41 : decode cMe_read 41 = .ok (.iload 4, 2) := by decide +kernel
theorem dMe_read_43 : decode cMe_read 43 = .ok (.iload 7, 2) := by decide +kernel
theorem dMe_read_45 : decode cMe_read 45 = .ok (.iadd, 1) := by decide +kernel
theorem dMe_read_46 : decode cMe_read 46 = .ok (.baload, 1) := by decide +kernel
theorem dMe_read_47 : decode cMe_read 47 = .ok (.sipush 255, 3) := by decide +kernel
theorem dMe_read_50 : decode cMe_read 50 = .ok (.iand, 1) := by decide +kernel
theorem dMe_read_51 : decode cMe_read 51 = .ok (.i2l, 1) := by decide +kernel
theorem dMe_read_52 : decode cMe_read 52 = .ok (.lor, 1) := by decide +kernel
theorem dMe_read_53 : decode cMe_read 53 = .ok (.lstore 5, 2) := by decide +kernel
theorem dMe_read_55 : decode cMe_read 55 = .ok (.iinc 7 (-1), 3) := by decide +kernel
theorem dMe_read_58 : decode cMe_read 58 = .ok (.goto (-31), 3) := by decide +kernel
theorem dMe_read_61 : decode cMe_read 61 = .ok (.lload 5, 2) := by decide +kernel
theorem dMe_read_63 : decode cMe_read 63 = .ok (.lreturn, 1) := by decide +kernel
theorem dMe_write_0 : decode cMe_write 0 = .ok (.aload_n 0, 1) := by decide +kernel
theorem dMe_write_1 : decode cMe_write 1 = .ok (.lload_n 1, 1) := by decide +kernel
theorem dMe_write_2 : decode cMe_write 2 = .ok (.iload_n 3, 1) := by decide +kernel
theorem dMe_write_3 : decode cMe_write 3 = .ok (.invokevirtual 15, 3) := by decide +kernel
theorem dMe_write_6 : decode cMe_write 6 = .ok (.ifCond .ne 4, 3) := by decide +kernel
theorem dMe_write_9 : decode cMe_write 9 = .ok (.return_, 1) := by decide +kernel
theorem dMe_write_10 : decode cMe_write 10 = .ok (.lload_n 1, 1) := by decide +kernel
theorem dMe_write_11 : decode cMe_write 11 = .ok (.ldc2_w 13, 3) := by decide +kernel
theorem dMe_write_14 : decode cMe_write 14 = .ok (.lsub, 1) := by decide +kernel
theorem dMe_write_15 : decode cMe_write 15 = .ok (.l2i, 1) := by decide +kernel
theorem dMe_write_16 : decode cMe_write 16 = .ok (.istore 6, 2) := by decide +kernel
theorem dMe_write_18 : decode cMe_write 18 = .ok (.iconst 0, 1) := by decide +kernel
theorem dMe_write_19 : decode cMe_write 19 = .ok (.istore 7, 2) := by decide +kernel
theorem dMe_write_21 : decode cMe_write 21 = .ok (.iload 7, 2) := by decide +kernel
theorem dMe_write_23 : decode cMe_write 23 = .ok (.iload_n 3, 1) := by decide +kernel
theorem dMe_write_24 : decode cMe_write 24 = .ok (.if_icmp .ge 29, 3) := by decide +kernel
theorem dMe_write_27 : decode cMe_write 27 = .ok (.aload_n 0, 1) := by decide +kernel
theorem dMe_write_28 : decode cMe_write 28 = .ok (.getfield 9, 3) := by decide +kernel
theorem dMe_write_31 : decode cMe_write 31 = .ok (.iload 6, 2) := by decide +kernel
theorem dMe_write_33 : decode cMe_write 33 = .ok (.iload 7, 2) := by decide +kernel
theorem dMe_write_35 : decode cMe_write 35 = .ok (.iadd, 1) := by decide +kernel
theorem dMe_write_36 : decode cMe_write 36 = .ok (.lload 4, 2) := by decide +kernel
theorem dMe_write_38 : decode cMe_write 38 = .ok (.bipush 8, 2) := by decide +kernel
theorem dMe_write_40 : decode cMe_write 40 = .ok (.iload 7, 2) := by decide +kernel
theorem dMe_write_42 : decode cMe_write 42 = .ok (.imul, 1) := by decide +kernel
theorem dMe_write_43 : decode cMe_write 43 = .ok (.lshr, 1) := by decide +kernel
theorem dMe_write_44 : decode cMe_write 44 = .ok (.l2i, 1) := by decide +kernel
theorem dMe_write_45 : decode cMe_write 45 = .ok (.i2b, 1) := by decide +kernel
theorem dMe_write_46 : decode cMe_write 46 = .ok (.bastore, 1) := by decide +kernel
theorem dMe_write_47 : decode cMe_write 47 = .ok (.iinc 7 1, 3) := by decide +kernel
theorem dMe_write_50 : decode cMe_write 50 = .ok (.goto (-29), 3) := by decide +kernel
theorem dMe_write_53 : decode cMe_write 53 = .ok (.return_, 1) := by decide +kernel
