theorem dMa_init_0 : decode cMa_init 0 = .ok (.aload_n 0, 1) := by decide +kernel
theorem dMa_init_1 : decode cMa_init 1 = .ok (.invokespecial 1, 3) := by decide +kernel
theorem dMa_init_4 : decode cMa_init 4 = .ok (.aload_n 0, 1) := by decide +kernel
theorem dMa_init_5 : decode cMa_init 5 = .ok (.bipush 16, 2) := by decide +kernel
theorem dMa_init_7 : decode cMa_init 7 = .ok (.newarray .long, 2) := by decide +kernel
theorem dMa_init_9 : decode cMa_init 9 = .ok (.putfield 7, 3) := by decide +kernel
theorem dMa_init_12 : decode cMa_init 12 = .ok (.aload_n 0, 1) := by decide +kernel
theorem dMa_init_13 : decode cMa_init 13 = .ok (.new 13, 3) := by decide +kernel
theorem dMa_init_16 : decode cMa_init 16 = .ok (.dup, 1) := by decide +kernel
theorem dMa_init_17 : decode cMa_init 17 = .ok (.invokespecial 15, 3) := by decide +kernel
theorem dMa_init_20 : decode cMa_init 20 = .ok (.putfield 16, 3) := by decide +kernel
theorem dMa_init_23 : decode cMa_init 23 = .ok (.return_, 1) := by decide +kernel
theorem dMa_follow_0 : decode cMa_follow 0 = .ok (.aload_n 1, 1) := by decide +kernel
theorem dMa_follow_1 : decode cMa_follow 1 = .ok (.iload_n 2, 1) := by decide +kernel
theorem dMa_follow_2 : decode cMa_follow 2 = .ok (.invokevirtual 20, 3) := by decide +kernel
theorem dMa_follow_5 : decode cMa_follow 5 = .ok (.lstore_n 3, 1) := by decide +kernel
theorem dMa_follow_6 : decode cMa_follow 6 = .ok (.lload_n 3, 1) := by decide +kernel
theorem dMa_follow_7 : decode cMa_follow 7 = .ok (.invokestatic 26, 3) := by decide +kernel
theorem dMa_follow_10 : decode cMa_follow 10 = .ok (.tableswitch 146 0 6 #[42, 58, 75, 97, 146, 139, 139], 42) := by decide +kernel
theorem dMa_follow_52 : decode cMa_follow 52 = .ok (.aload_n 0, 1) := by decide +kernel
theorem dMa_follow_53 : decode cMa_follow 53 = .ok (.lload_n 3, 1) := by decide +kernel
theorem dMa_follow_54 : decode cMa_follow 54 = .ok (.aload_n 1, 1) := by decide +kernel
theorem dMa_follow_55 : decode cMa_follow 55 = .ok (.iload_n 2, 1) := by decide +kernel
theorem dMa_follow_56 : decode cMa_follow 56 = .ok (.iconst 1, 1) := by decide +kernel
theorem dMa_follow_57 : decode cMa_follow 57 = .ok (.iadd, 1) := by decide +kernel
theorem dMa_follow_58 : decode cMa_follow 58 = .ok (.invokevirtual 20, 3) := by decide +kernel
theorem dMa_follow_61 : decode cMa_follow 61 = .ok (.invokevirtual 32, 3) := by decide +kernel
theorem dMa_follow_64 : decode cMa_follow 64 = .ok (.iload_n 2, 1) := by decide +kernel
theorem dMa_follow_65 : decode cMa_follow 65 = .ok (.iconst 2, 1) := by decide +kernel
theorem dMa_follow_66 : decode cMa_follow 66 = .ok (.iadd, 1) := by decide +kernel
theorem dMa_follow_67 : decode cMa_follow 67 = .ok (.ireturn, 1) := by decide +kernel
theorem dMa_follow_68 : decode cMa_follow 68 = .ok (.aload_n 0, 1) := by decide +kernel
theorem dMa_follow_69 : decode cMa_follow 69 = .ok (.lload_n 3, 1) := by decide +kernel
theorem dMa_follow_70 : decode cMa_follow 70 = .ok (.invokevirtual 36, 3) := by decide +kernel
theorem dMa_follow_73 : decode cMa_follow 73 = .ok (.ifCond .eq 9, 3) := by decide +kernel
theorem dMa_follow_76 : decode cMa_follow 76 = .ok (.iload_n 2, 1) := by decide +kernel
theorem dMa_follow_77 : decode cMa_follow 77 = .ok (.iconst 1, 1) := by decide +kernel
theorem dMa_follow_78 : decode cMa_follow 78 = .ok (.iadd, 1) := by decide +kernel
theorem dMa_follow_79 : decode cMa_follow 79 = .ok (.goto 5, 3) := by decide +kernel
theorem dMa_follow_82 : decode cMa_follow 82 = .ok (.bipush (-2), 2) := by decide +kernel
theorem dMa_follow_84 : decode cMa_follow 84 = .ok (.ireturn, 1) := by decide +kernel
theorem dMa_follow_85 : decode cMa_follow 85 = .ok (.aload_n 0, 1) := by decide +kernel
theorem dMa_follow_86 : decode cMa_follow 86 = .ok (.lload_n 3, 1) := by decide +kernel
theorem dMa_follow_87 : decode cMa_follow 87 = .ok (.lload_n 3, 1) := by decide +kernel
theorem dMa_follow_88 : decode cMa_follow 88 = .ok (.invokestatic 40, 3) := by decide +kernel
theorem dMa_follow_91 : decode cMa_follow 91 = .ok (.i2l, 1) := by decide +kernel
theorem dMa_follow_92 : decode cMa_follow 92 = .ok (.invokevirtual 43, 3) := by decide +kernel
theorem dMa_follow_95 : decode cMa_follow 95 = .ok (.ifCond .eq 9, 3) := by decide +kernel
theorem dMa_follow_98 : decode cMa_follow 98 = .ok (.iload_n 2, 1) := by decide +kernel
theorem dMa_follow_99 : decode cMa_follow 99 = .ok (.iconst 1, 1) := by decide +kernel
theorem dMa_follow_100 : decode cMa_follow 100 = .ok (.iadd, 1) := by decide +kernel
theorem dMa_follow_101 : decode cMa_follow 101 = .ok (.goto 5, 3) := by decide +kernel
theorem dMa_follow_104 : decode cMa_follow 104 = .ok (.bipush (-2), 2) := by decide +kernel
theorem dMa_follow_106 : decode cMa_follow 106 = .ok (.ireturn, 1) := by decide +kernel
theorem dMa_follow_107 : decode cMa_follow 107 = .ok (.lload_n 3, 1) := by decide +kernel
theorem dMa_follow_108 : decode cMa_follow 108 = .ok (.invokestatic 47, 3) := by decide +kernel
theorem dMa_follow_111 : decode cMa_follow 111 = .ok (.bipush 6, 2) := by decide +kernel
theorem dMa_follow_113 : decode cMa_follow 113 = .ok (.if_icmp .ne 14, 3) := by decide +kernel
theorem dMa_follow_116 : decode cMa_follow 116 = .ok (.aload_n 0, 1) := by decide +kernel
theorem dMa_follow_117 : decode cMa_follow 117 = .ok (.lload_n 3, 1) := by decide +kernel
theorem dMa_follow_118 : decode cMa_follow 118 = .ok (.invokevirtual 50, 3) := by decide +kernel
theorem dMa_follow_121 : decode cMa_follow 121 = .ok (.ifCond .eq 25, 3) := by decide +kernel
theorem dMa_follow_124 : decode cMa_follow 124 = .ok (.goto 16, 3) := by decide +kernel
theorem dMa_follow_127 : decode cMa_follow 127 = .ok (.aload_n 0, 1) := by decide +kernel
theorem dMa_follow_128 : decode cMa_follow 128 = .ok (.lload_n 3, 1) := by decide +kernel
theorem dMa_follow_129 : decode cMa_follow 129 = .ok (.aload_n 0, 1) := by decide +kernel
theorem dMa_follow_130 : decode cMa_follow 130 = .ok (.lload_n 3, 1) := by decide +kernel
theorem dMa_follow_131 : decode cMa_follow 131 = .ok (.invokevirtual 53, 3) := by decide +kernel
theorem dMa_follow_134 : decode cMa_follow 134 = .ok (.invokevirtual 43, 3) := by decide +kernel
theorem dMa_follow_137 : decode cMa_follow 137 = .ok (.ifCond .eq 9, 3) := by decide +kernel
theorem dMa_follow_140 : decode cMa_follow 140 = .ok (.iload_n 2, 1) := by decide +kernel
theorem dMa_follow_141 : decode cMa_follow 141 = .ok (.iconst 1, 1) := by decide +kernel
theorem dMa_follow_142 : decode cMa_follow 142 = .ok (.iadd, 1) := by decide +kernel
theorem dMa_follow_143 : decode cMa_follow 143 = .ok (.goto 5, 3) := by decide +kernel
theorem dMa_follow_146 : decode cMa_follow 146 = .ok (.bipush (-2), 2) := by decide +kernel
theorem dMa_follow_148 : decode cMa_follow 148 = .ok (.ireturn, 1) := by decide +kernel
theorem dMa_follow_149 : decode cMa_follow 149 = .ok (.aload_n 0, 1) := by decide +kernel
theorem dMa_follow_150 : decode cMa_follow 150 = .ok (.iload_n 2, 1) := by decide +kernel
theorem dMa_follow_151 : decode cMa_follow 151 = .ok (.lload_n 3, 1) := by decide +kernel
theorem dMa_follow_152 : decode cMa_follow 152 = .ok (.invokevirtual 57, 3) := by decide +kernel
theorem dMa_follow_155 : decode cMa_follow 155 = .ok (.ireturn, 1) := by decide +kernel
theorem dMa_follow_156 : decode cMa_follow 156 = .ok (.aload_n 0, 1) := by decide +kernel
theorem dMa_follow_157 : decode cMa_follow 157 = .ok (.getfield 7, 3) := by decide +kernel
theorem dMa_follow_160 : decode cMa_follow 160 = .ok (.lload_n 3, 1) := by decide +kernel
theorem dMa_follow_161 : decode cMa_follow 161 = .ok (.invokestatic 61, 3) := by decide +kernel
theorem dMa_follow_164 : decode cMa_follow 164 = .ok (.aload_n 0, 1) := by decide +kernel
theorem dMa_follow_165 : decode cMa_follow 165 = .ok (.lload_n 3, 1) := by decide +kernel
theorem dMa_follow_166 : decode cMa_follow 166 = .ok (.invokevirtual 64, 3) := by decide +kernel
theorem dMa_follow_169 : decode cMa_follow 169 = .ok (.lastore, 1) := by decide +kernel
theorem dMa_follow_170 : decode cMa_follow 170 = .ok (.iload_n 2, 1) := by decide +kernel
theorem dMa_follow_171 : decode cMa_follow 171 = .ok (.iconst 1, 1) := by decide +kernel
theorem dMa_follow_172 : decode cMa_follow 172 = .ok (.iadd, 1) := by decide +kernel
theorem dMa_follow_173 : decode cMa_follow 173 = .ok (.ireturn, 1) := by decide +kernel
theorem dMa_x_0 : decode cMa_x 0 = .ok (.aload_n 0, 1) := by decide +kernel
theorem dMa_x_1 : decode cMa_x 1 = .ok (.getfield 7, 3) := by decide +kernel
theorem dMa_x_4 : decode cMa_x 4 = .ok (.lload_n 1, 1) := by decide +kernel
theorem dMa_x_5 : decode cMa_x 5 = .ok (.invokestatic 61, 3) := by decide +kernel
theorem dMa_x_8 : decode cMa_x 8 = .ok (.laload, 1) := by decide +kernel
theorem dMa_x_9 : decode cMa_x 9 = .ok (.lreturn, 1) := by decide +kernel
theorem dMa_y_0 : decode cMa_y 0 = .ok (.aload_n 0, 1) := by decide +kernel
theorem dMa_y_1 : decode cMa_y 1 = .ok (.getfield 7, 3) := by decide +kernel
theorem dMa_y_4 : decode cMa_y 4 = .ok (.lload_n 1, 1) := by decide +kernel
theorem dMa_y_5 : decode cMa_y 5 = .ok (.invokestatic 67, 3) := by decide +kernel
theorem dMa_y_8 : decode cMa_y 8 = .ok (.laload, 1) := by decide +kernel
theorem dMa_y_9 : decode cMa_y 9 = .ok (.lreturn, 1) := by decide +kernel
theorem dMa_operand_0 : decode cMa_operand 0 = .ok (.lload_n 1, 1) := by decide +kernel
theorem dMa_operand_1 : decode cMa_operand 1 = .ok (.invokestatic 70, 3) := by decide +kernel
theorem dMa_operand_4 : decode cMa_operand 4 = .ok (.ifCond .eq 11, 3) := by decide +kernel
theorem dMa_operand_7 : decode cMa_operand 7 = .ok (.aload_n 0, 1) := by decide +kernel
theorem dMa_operand_8 : decode cMa_operand 8 = .ok (.lload_n 1, 1) := by decide +kernel
theorem dMa_operand_9 : decode cMa_operand 9 = .ok (.invokevirtual 53, 3) := by decide +kernel
theorem dMa_operand_12 : decode cMa_operand 12 = .ok (.goto 8, 3) := by decide +kernel
theorem dMa_operand_15 : decode cMa_operand 15 = .ok (.lload_n 1, 1) := by decide +kernel
theorem dMa_operand_16 : decode cMa_operand 16 = .ok (.invokestatic 40, 3) := by decide +kernel
theorem dMa_operand_19 : decode cMa_operand 19 = .ok (.i2l, 1) := by decide +kernel
theorem dMa_operand_20 : decode cMa_operand 20 = .ok (.lreturn, 1) := by decide +kernel
theorem dMa_takeTwoPlaces_0 : decode cMa_takeTwoPlaces 0 = .ok (.lload_n 3, 1) := by decide +kernel
theorem dMa_takeTwoPlaces_1 : decode cMa_takeTwoPlaces 1 = .ok (.invokestatic 40, 3) := by decide +kernel
theorem dMa_takeTwoPlaces_4 : decode cMa_takeTwoPlaces 4 = .ok (.i2l, 1) := by decide +kernel
theorem dMa_takeTwoPlaces_5 : decode cMa_takeTwoPlaces 5 = .ok (.lstore 5, 2) := by decide +kernel
theorem dMa_takeTwoPlaces_7 : decode cMa_takeTwoPlaces 7 = .ok (.aload_n 0, 1) := by decide +kernel
theorem dMa_takeTwoPlaces_8 : decode cMa_takeTwoPlaces 8 = .ok (.getfield 7, 3) := by decide +kernel
theorem dMa_takeTwoPlaces_11 : decode cMa_takeTwoPlaces 11 = .ok (.lload_n 1, 1) := by decide +kernel
theorem dMa_takeTwoPlaces_12 : decode cMa_takeTwoPlaces 12 = .ok (.invokestatic 61, 3) := by decide +kernel
theorem dMa_takeTwoPlaces_15 : decode cMa_takeTwoPlaces 15 = .ok (.lload 5, 2) := by decide +kernel
theorem dMa_takeTwoPlaces_17 : decode cMa_takeTwoPlaces 17 = .ok (.bipush 32, 2) := by decide +kernel
theorem dMa_takeTwoPlaces_19 : decode cMa_takeTwoPlaces 19 = .ok (.lshl, 1) := by decide +kernel
theorem dMa_takeTwoPlaces_20 : decode cMa_takeTwoPlaces 20 = .ok (.lload_n 1, 1) := by decide +kernel
theorem dMa_takeTwoPlaces_21 : decode cMa_takeTwoPlaces 21 = .ok (.invokestatic 40, 3) := by decide +kernel
theorem dMa_takeTwoPlaces_24 : decode cMa_takeTwoPlaces 24 = .ok (.i2l, 1) := by decide +kernel
theorem dMa_takeTwoPlaces_25 : decode cMa_takeTwoPlaces 25 = .ok (.bipush 32, 2) := by decide +kernel
theorem dMa_takeTwoPlaces_27 : decode cMa_takeTwoPlaces 27 = .ok (.invokestatic 73, 3) := by decide +kernel
theorem dMa_takeTwoPlaces_30 : decode cMa_takeTwoPlaces 30 = .ok (.lor, 1) := by decide +kernel
theorem dMa_takeTwoPlaces_31 : decode cMa_takeTwoPlaces 31 = .ok (.lastore, 1) := by decide +kernel
theorem dMa_takeTwoPlaces_32 : decode cMa_takeTwoPlaces 32 = .ok (.return_, 1) := by decide +kernel
theorem dMa_read_0 : decode cMa_read 0 = .ok (.lload_n 1, 1) := by decide +kernel
theorem dMa_read_1 : decode cMa_read 1 = .ok (.invokestatic 79, 3) := by decide +kernel
theorem dMa_read_4 : decode cMa_read 4 = .ok (.istore_n 3, 1) := by decide +kernel
theorem dMa_read_5 : decode cMa_read 5 = .ok (.aload_n 0, 1) := by decide +kernel
theorem dMa_read_6 : decode cMa_read 6 = .ok (.lload_n 1, 1) := by decide +kernel
theorem dMa_read_7 : decode cMa_read 7 = .ok (.invokevirtual 53, 3) := by decide +kernel
theorem dMa_read_10 : decode cMa_read 10 = .ok (.lload_n 1, 1) := by decide +kernel
theorem dMa_read_11 : decode cMa_read 11 = .ok (.invokestatic 82, 3) := by decide +kernel
theorem dMa_read_14 : decode cMa_read 14 = .ok (.i2l, 1) := by decide +kernel
theorem dMa_read_15 : decode cMa_read 15 = .ok (.ladd, 1) := by decide +kernel
theorem dMa_read_16 : decode cMa_read 16 = .ok (.lstore 4, 2) := by decide +kernel
theorem dMa_read_18 : decode cMa_read 18 = .ok (.aload_n 0, 1) := by decide +kernel
theorem dMa_read_19 : decode cMa_read 19 = .ok (.getfield 16, 3) := by decide +kernel
theorem dMa_read_22 : decode cMa_read 22 = .ok (.lload 4, 2) := by decide +kernel
theorem dMa_read_24 : decode cMa_read 24 = .ok (.iload_n 3, 1) := by decide +kernel
theorem dMa_read_25 : decode cMa_read 25 = .ok (.invokevirtual 85, 3) := by decide +kernel
theorem dMa_read_28 : decode cMa_read 28 = .ok (.ifCond .ne 5, 3) := by decide +kernel
theorem dMa_read_31 : decode cMa_read 31 = .ok (.iconst 0, 1) := by decide +kernel
theorem dMa_read_32 : decode cMa_read 32 = .ok (.ireturn, 1) := by decide +kernel
theorem dMa_read_33 : decode cMa_read 33 = .ok (.aload_n 0, 1) := by decide +kernel
theorem dMa_read_34 : decode cMa_read 34 = .ok (.getfield 16, 3) := by decide +kernel
theorem dMa_read_37 : decode cMa_read 37 = .ok (.lload 4, 2) := by decide +kernel
theorem dMa_read_39 : decode cMa_read 39 = .ok (.iload_n 3, 1) := by decide +kernel
theorem dMa_read_40 : decode cMa_read 40 = .ok (.invokevirtual 89, 3) := by decide +kernel
theorem dMa_read_43 : decode cMa_read 43 = .ok (.lstore 6, 2) := by decide +kernel
theorem dMa_read_45 : decode cMa_read 45 = .ok (.aload_n 0, 1) := by decide +kernel
theorem dMa_read_46 : decode cMa_read 46 = .ok (.getfield 7, 3) := by decide +kernel
theorem dMa_read_49 : decode cMa_read 49 = .ok (.lload_n 1, 1) := by decide +kernel
theorem dMa_read_50 : decode cMa_read 50 = .ok (.invokestatic 61, 3) := by decide +kernel
theorem dMa_read_53 : decode cMa_read 53 = .ok (.lload_n 1, 1) := by decide +kernel
theorem dMa_read_54 : decode cMa_read 54 = .ok (.invokestatic 47, 3) := by decide +kernel
theorem dMa_read_57 : decode cMa_read 57 = .ok (.iconst 4, 1) := by decide +kernel
theorem dMa_read_58 : decode cMa_read 58 = .ok (.if_icmp .ne 15, 3) := by decide +kernel
theorem dMa_read_61 : decode cMa_read 61 = .ok (.lload 6, 2) := by decide +kernel
theorem dMa_read_63 : decode cMa_read 63 = .ok (.bipush 8, 2) := by decide +kernel
theorem dMa_read_65 : decode cMa_read 65 = .ok (.iload_n 3, 1) := by decide +kernel
theorem dMa_read_66 : decode cMa_read 66 = .ok (.imul, 1) := by decide +kernel
theorem dMa_read_67 : decode cMa_read 67 = .ok (.invokestatic 91, 3) := by decide +kernel
theorem dMa_read_70 : decode cMa_read 70 = .ok (.goto 5, 3) := by decide +kernel
theorem dMa_read_73 : decode cMa_read 73 = .ok (.lload 6, 2) := by decide +kernel
theorem dMa_read_75 : decode cMa_read 75 = .ok (.lastore, 1) := by decide +kernel
theorem dMa_read_76 : decode cMa_read 76 = .ok (.iconst 1, 1) := by decide +kernel
theorem dMa_read_77 : decode cMa_read 77 = .ok (.ireturn, 1) := by decide +kernel
theorem dMa_write_0 : decode cMa_write 0 = .ok (.lload_n 1, 1) := by decide +kernel
theorem dMa_write_1 : decode cMa_write 1 = .ok (.invokestatic 79, 3) := by decide +kernel
theorem dMa_write_4 : decode cMa_write 4 = .ok (.istore 5, 2) := by decide +kernel
theorem dMa_write_6 : decode cMa_write 6 = .ok (.aload_n 0, 1) := by decide +kernel
theorem dMa_write_7 : decode cMa_write 7 = .ok (.lload_n 1, 1) := by decide +kernel
theorem dMa_write_8 : decode cMa_write 8 = .ok (.invokevirtual 94, 3) := by decide +kernel
theorem dMa_write_11 : decode cMa_write 11 = .ok (.lload_n 1, 1) := by decide +kernel
theorem dMa_write_12 : decode cMa_write 12 = .ok (.invokestatic 82, 3) := by decide +kernel
theorem dMa_write_15 : decode cMa_write 15 = .ok (.i2l, 1) := by decide +kernel
theorem dMa_write_16 : decode cMa_write 16 = .ok (.ladd, 1) := by decide +kernel
theorem dMa_write_17 : decode cMa_write 17 = .ok (.lstore 6, 2) := by decide +kernel
theorem dMa_write_19 : decode cMa_write 19 = .ok (.aload_n 0, 1) := by decide +kernel
theorem dMa_write_20 : decode cMa_write 20 = .ok (.getfield 16, 3) := by decide +kernel
theorem dMa_write_23 : decode cMa_write 23 = .ok (.lload 6, 2) := by decide +kernel
theorem dMa_write_25 : decode cMa_write 25 = .ok (.iload 5, 2) := by decide +kernel
theorem dMa_write_27 : decode cMa_write 27 = .ok (.invokevirtual 85, 3) := by decide +kernel
theorem dMa_write_30 : decode cMa_write 30 = .ok (.ifCond .ne 5, 3) := by decide +kernel
theorem dMa_write_33 : decode cMa_write 33 = .ok (.iconst 0, 1) := by decide +kernel
theorem dMa_write_34 : decode cMa_write 34 = .ok (.ireturn, 1) := by decide +kernel
theorem dMa_write_35 : decode cMa_write 35 = .ok (.aload_n 0, 1) := by decide +kernel
theorem dMa_write_36 : decode cMa_write 36 = .ok (.getfield 16, 3) := by decide +kernel
theorem dMa_write_39 : decode cMa_write 39 = .ok (.lload 6, 2) := by decide +kernel
theorem dMa_write_41 : decode cMa_write 41 = .ok (.iload 5, 2) := by decide +kernel
theorem dMa_write_43 : decode cMa_write 43 = .ok (.lload_n 3, 1) := by decide +kernel
theorem dMa_write_44 : decode cMa_write 44 = .ok (.invokevirtual 97, 3) := by decide +kernel
theorem dMa_write_47 : decode cMa_write 47 = .ok (.iconst 1, 1) := by decide +kernel
theorem dMa_write_48 : decode cMa_write 48 = .ok (.ireturn, 1) := by decide +kernel
theorem dMa_exchange_0 : decode cMa_exchange 0 = .ok (.lload_n 1, 1) := by decide +kernel
theorem dMa_exchange_1 : decode cMa_exchange 1 = .ok (.invokestatic 79, 3) := by decide +kernel
theorem dMa_exchange_4 : decode cMa_exchange 4 = .ok (.istore_n 3, 1) := by decide +kernel
theorem dMa_exchange_5 : decode cMa_exchange 5 = .ok (.lload_n 1, 1) := by decide +kernel
theorem dMa_exchange_6 : decode cMa_exchange 6 = .ok (.invokestatic 40, 3) := by decide +kernel
theorem dMa_exchange_9 : decode cMa_exchange 9 = .ok (.istore 4, 2) := by decide +kernel
theorem dMa_exchange_11 : decode cMa_exchange 11 = .ok (.aload_n 0, 1) := by decide +kernel
theorem dMa_exchange_12 : decode cMa_exchange 12 = .ok (.lload_n 1, 1) := by decide +kernel
theorem dMa_exchange_13 : decode cMa_exchange 13 = .ok (.invokevirtual 94, 3) := by decide +kernel
theorem dMa_exchange_16 : decode cMa_exchange 16 = .ok (.lload_n 1, 1) := by decide +kernel
theorem dMa_exchange_17 : decode cMa_exchange 17 = .ok (.invokestatic 82, 3) := by decide +kernel
theorem dMa_exchange_20 : decode cMa_exchange 20 = .ok (.i2l, 1) := by decide +kernel
theorem dMa_exchange_21 : decode cMa_exchange 21 = .ok (.ladd, 1) := by decide +kernel
theorem dMa_exchange_22 : decode cMa_exchange 22 = .ok (.lstore 5, 2) := by decide +kernel
theorem dMa_exchange_24 : decode cMa_exchange 24 = .ok (.aload_n 0, 1) := by decide +kernel
theorem dMa_exchange_25 : decode cMa_exchange 25 = .ok (.getfield 16, 3) := by decide +kernel
theorem dMa_exchange_28 : decode cMa_exchange 28 = .ok (.lload 5, 2) := by decide +kernel
theorem dMa_exchange_30 : decode cMa_exchange 30 = .ok (.iload_n 3, 1) := by decide +kernel
theorem dMa_exchange_31 : decode cMa_exchange 31 = .ok (.invokevirtual 85, 3) := by decide +kernel
theorem dMa_exchange_34 : decode cMa_exchange 34 = .ok (.ifCond .eq 15, 3) := by decide +kernel
theorem dMa_exchange_37 : decode cMa_exchange 37 = .ok (.lload 5, 2) := by decide +kernel
theorem dMa_exchange_39 : decode cMa_exchange 39 = .ok (.iload_n 3, 1) := by decide +kernel
theorem dMa_exchange_40 : decode cMa_exchange 40 = .ok (.iconst 1, 1) := by decide +kernel
theorem dMa_exchange_41 : decode cMa_exchange 41 = .ok (.isub, 1) := by decide +kernel
theorem dMa_exchange_42 : decode cMa_exchange 42 = .ok (.i2l, 1) := by decide +kernel
theorem dMa_exchange_43 : decode cMa_exchange 43 = .ok (.land, 1) := by decide +kernel
theorem dMa_exchange_44 : decode cMa_exchange 44 = .ok (.lconst 0, 1) := by decide +kernel
theorem dMa_exchange_45 : decode cMa_exchange 45 = .ok (.lcmp, 1) := by decide +kernel
theorem dMa_exchange_46 : decode cMa_exchange 46 = .ok (.ifCond .eq 5, 3) := by decide +kernel
theorem dMa_exchange_49 : decode cMa_exchange 49 = .ok (.iconst 0, 1) := by decide +kernel
theorem dMa_exchange_50 : decode cMa_exchange 50 = .ok (.ireturn, 1) := by decide +kernel
theorem dMa_exchange_51 : decode cMa_exchange 51 = .ok (.aload_n 0, 1) := by decide +kernel
theorem dMa_exchange_52 : decode cMa_exchange 52 = .ok (.getfield 16, 3) := by decide +kernel
theorem dMa_exchange_55 : decode cMa_exchange 55 = .ok (.lload 5, 2) := by decide +kernel
theorem dMa_exchange_57 : decode cMa_exchange 57 = .ok (.iload_n 3, 1) := by decide +kernel
theorem dMa_exchange_58 : decode cMa_exchange 58 = .ok (.invokevirtual 89, 3) := by decide +kernel
theorem dMa_exchange_61 : decode cMa_exchange 61 = .ok (.lstore 7, 2) := by decide +kernel
theorem dMa_exchange_63 : decode cMa_exchange 63 = .ok (.lload 7, 2) := by decide +kernel
theorem dMa_exchange_65 : decode cMa_exchange 65 = .ok (.aload_n 0, 1) := by decide +kernel
theorem dMa_exchange_66 : decode cMa_exchange 66 = .ok (.getfield 7, 3) := by decide +kernel
theorem dMa_exchange_69 : decode cMa_exchange 69 = .ok (.iconst 0, 1) := by decide +kernel
theorem dMa_exchange_70 : decode cMa_exchange 70 = .ok (.laload, 1) := by decide +kernel
theorem dMa_exchange_71 : decode cMa_exchange 71 = .ok (.bipush 8, 2) := by decide +kernel
theorem dMa_exchange_73 : decode cMa_exchange 73 = .ok (.iload_n 3, 1) := by decide +kernel
theorem dMa_exchange_74 : decode cMa_exchange 74 = .ok (.imul, 1) := by decide +kernel
theorem dMa_exchange_75 : decode cMa_exchange 75 = .ok (.invokestatic 73, 3) := by decide +kernel
theorem dMa_exchange_78 : decode cMa_exchange 78 = .ok (.lcmp, 1) := by decide +kernel
theorem dMa_exchange_79 : decode cMa_exchange 79 = .ok (.ifCond .ne 7, 3) := by decide +kernel
theorem dMa_exchange_82 : decode cMa_exchange 82 = .ok (.iconst 1, 1) := by decide +kernel
theorem dMa_exchange_83 : decode cMa_exchange 83 = .ok (.goto 4, 3) := by decide +kernel
theorem dMa_exchange_86 : decode cMa_exchange 86 = .ok (.iconst 0, 1) := by decide +kernel
theorem dMa_exchange_87 : decode cMa_exchange 87 = .ok (.istore 9, 2) := by decide +kernel
theorem dMa_exchange_89 : decode cMa_exchange 89 = .ok (.aload_n 0, 1) := by decide +kernel
theorem dMa_exchange_90 : decode cMa_exchange 90 = .ok (.getfield 16, 3) := by decide +kernel
theorem dMa_exchange_93 : decode cMa_exchange 93 = .ok (.lload 5, 2) := by decide +kernel
theorem dMa_exchange_95 : decode cMa_exchange 95 = .ok (.iload_n 3, 1) := by decide +kernel
theorem dMa_exchange_96 : decode cMa_exchange 96 = .ok (.iload 4, 2) := by decide +kernel
theorem dMa_exchange_98 : decode cMa_exchange 98 = .ok (.lload 7, 2) := by decide +kernel
theorem dMa_exchange_100 : decode cMa_exchange 100 = .ok (.aload_n 0, 1) := by decide +kernel
theorem dMa_exchange_101 : decode cMa_exchange 101 = .ok (.lload_n 1, 1) := by decide +kernel
theorem dMa_exchange_102 : decode cMa_exchange 102 = .ok (.invokevirtual 53, 3) := by decide +kernel
theorem dMa_exchange_105 : decode cMa_exchange 105 = .ok (.iload 9, 2) := by decide +kernel
theorem dMa_exchange_107 : decode cMa_exchange 107 = .ok (.invokestatic 100, 3) := by decide +kernel
theorem dMa_exchange_110 : decode cMa_exchange 110 = .ok (.invokevirtual 97, 3) := by decide +kernel
theorem dMa_exchange_113 : decode cMa_exchange 113 = .ok (.iload 4, 2) := by decide +kernel
theorem dMa_exchange_115 : decode cMa_exchange 115 = .ok (.sipush 241, 3) := by decide +kernel
theorem dMa_exchange_118 : decode cMa_exchange 118 = .ok (.if_icmp .ne 14, 3) := by decide +kernel
theorem dMa_exchange_121 : decode cMa_exchange 121 = .ok (.aload_n 0, 1) := by decide +kernel
theorem dMa_exchange_122 : decode cMa_exchange 122 = .ok (.getfield 7, 3) := by decide +kernel
theorem dMa_exchange_125 : decode cMa_exchange 125 = .ok (.iconst 0, 1) := by decide +kernel
theorem dMa_exchange_126 : decode cMa_exchange 126 = .ok (.lload 7, 2) := by decide +kernel
theorem dMa_exchange_128 : decode cMa_exchange 128 = .ok (.lastore, 1) := by decide +kernel
theorem dMa_exchange_129 : decode cMa_exchange 129 = .ok (.goto 22, 3) := by decide +kernel
theorem dMa_exchange_132 : decode cMa_exchange 132 = .ok (.iload 4, 2) := by decide +kernel
theorem dMa_exchange_134 : decode cMa_exchange 134 = .ok (.invokestatic 106, 3) := by decide +kernel
theorem dMa_exchange_137 : decode cMa_exchange 137 = .ok (.ifCond .eq 14, 3) := by decide +kernel
theorem dMa_exchange_140 : decode cMa_exchange 140 = .ok (.aload_n 0, 1) := by decide +kernel
theorem dMa_exchange_141 : decode cMa_exchange 141 = .ok (.getfield 7, 3) := by decide +kernel
theorem dMa_exchange_144 : decode cMa_exchange 144 = .ok (.lload_n 1, 1) := by decide +kernel
theorem dMa_exchange_145 : decode cMa_exchange 145 = .ok (.invokestatic 67, 3) := by decide +kernel
theorem dMa_exchange_148 : decode cMa_exchange 148 = .ok (.lload 7, 2) := by decide +kernel
theorem dMa_exchange_150 : decode cMa_exchange 150 = .ok (.lastore, 1) := by decide +kernel
theorem dMa_exchange_151 : decode cMa_exchange 151 = .ok (.iconst 1, 1) := by decide +kernel
theorem dMa_exchange_152 : decode cMa_exchange 152 = .ok (.ireturn, 1) := by decide +kernel
theorem dMa_jump_0 : decode cMa_jump 0 = .ok (.lload_n 2, 1) := by decide +kernel
theorem dMa_jump_1 : decode cMa_jump 1 = .ok (.invokestatic 110, 3) := by decide +kernel
theorem dMa_jump_4 : decode cMa_jump 4 = .ok (.ifCond .eq 5, 3) := by decide +kernel
theorem dMa_jump_7 : decode cMa_jump 7 = .ok (.iconst (-1), 1) := by decide +kernel
theorem dMa_jump_8 : decode cMa_jump 8 = .ok (.ireturn, 1) := by decide +kernel
theorem dMa_jump_9 : decode cMa_jump 9 = .ok (.lload_n 2, 1) := by decide +kernel
theorem dMa_jump_10 : decode cMa_jump 10 = .ok (.invokestatic 113, 3) := by decide +kernel
theorem dMa_jump_13 : decode cMa_jump 13 = .ok (.ifCond .eq 15, 3) := by decide +kernel
theorem dMa_jump_16 : decode cMa_jump 16 = .ok (.aload_n 0, 1) := by decide +kernel
theorem dMa_jump_17 : decode cMa_jump 17 = .ok (.lload_n 2, 1) := by decide +kernel
theorem dMa_jump_18 : decode cMa_jump 18 = .ok (.invokestatic 40, 3) := by decide +kernel
theorem dMa_jump_21 : decode cMa_jump 21 = .ok (.invokevirtual 116, 3) := by decide +kernel
theorem dMa_jump_24 : decode cMa_jump 24 = .ok (.iload_n 1, 1) := by decide +kernel
theorem dMa_jump_25 : decode cMa_jump 25 = .ok (.iconst 1, 1) := by decide +kernel
theorem dMa_jump_26 : decode cMa_jump 26 = .ok (.iadd, 1) := by decide +kernel
theorem dMa_jump_27 : decode cMa_jump 27 = .ok (.ireturn, 1) := by decide +kernel
theorem dMa_jump_28 : decode cMa_jump 28 = .ok (.lload_n 2, 1) := by decide +kernel
theorem dMa_jump_29 : decode cMa_jump 29 = .ok (.invokestatic 120, 3) := by decide +kernel
theorem dMa_jump_32 : decode cMa_jump 32 = .ok (.ifCond .ne 11, 3) := by decide +kernel
theorem dMa_jump_35 : decode cMa_jump 35 = .ok (.aload_n 0, 1) := by decide +kernel
theorem dMa_jump_36 : decode cMa_jump 36 = .ok (.lload_n 2, 1) := by decide +kernel
theorem dMa_jump_37 : decode cMa_jump 37 = .ok (.invokevirtual 123, 3) := by decide +kernel
theorem dMa_jump_40 : decode cMa_jump 40 = .ok (.ifCond .eq 12, 3) := by decide +kernel
theorem dMa_jump_43 : decode cMa_jump 43 = .ok (.iload_n 1, 1) := by decide +kernel
theorem dMa_jump_44 : decode cMa_jump 44 = .ok (.lload_n 2, 1) := by decide +kernel
theorem dMa_jump_45 : decode cMa_jump 45 = .ok (.invokestatic 126, 3) := by decide +kernel
theorem dMa_jump_48 : decode cMa_jump 48 = .ok (.l2i, 1) := by decide +kernel
theorem dMa_jump_49 : decode cMa_jump 49 = .ok (.goto 6, 3) := by decide +kernel
theorem dMa_jump_52 : decode cMa_jump 52 = .ok (.iload_n 1, 1) := by decide +kernel
theorem dMa_jump_53 : decode cMa_jump 53 = .ok (.iconst 1, 1) := by decide +kernel
theorem dMa_jump_54 : decode cMa_jump 54 = .ok (.iadd, 1) := by decide +kernel
theorem dMa_jump_55 : decode cMa_jump 55 = .ok (.ireturn, 1) := by decide +kernel
theorem dMa_takesJump_0 : decode cMa_takesJump 0 = .ok (.aload_n 0, 1) := by decide +kernel
theorem dMa_takesJump_1 : decode cMa_takesJump 1 = .ok (.lload_n 1, 1) := by decide +kernel
theorem dMa_takesJump_2 : decode cMa_takesJump 2 = .ok (.invokevirtual 94, 3) := by decide +kernel
theorem dMa_takesJump_5 : decode cMa_takesJump 5 = .ok (.lstore_n 3, 1) := by decide +kernel
theorem dMa_takesJump_6 : decode cMa_takesJump 6 = .ok (.aload_n 0, 1) := by decide +kernel
theorem dMa_takesJump_7 : decode cMa_takesJump 7 = .ok (.lload_n 1, 1) := by decide +kernel
theorem dMa_takesJump_8 : decode cMa_takesJump 8 = .ok (.invokevirtual 130, 3) := by decide +kernel
theorem dMa_takesJump_11 : decode cMa_takesJump 11 = .ok (.lstore 5, 2) := by decide +kernel
theorem dMa_takesJump_13 : decode cMa_takesJump 13 = .ok (.lload_n 1, 1) := by decide +kernel
theorem dMa_takesJump_14 : decode cMa_takesJump 14 = .ok (.invokestatic 26, 3) := by decide +kernel
theorem dMa_takesJump_17 : decode cMa_takesJump 17 = .ok (.bipush 6, 2) := by decide +kernel
theorem dMa_takesJump_19 : decode cMa_takesJump 19 = .ok (.if_icmp .ne 20, 3) := by decide +kernel
theorem dMa_takesJump_22 : decode cMa_takesJump 22 = .ok (.lload_n 1, 1) := by decide +kernel
theorem dMa_takesJump_23 : decode cMa_takesJump 23 = .ok (.invokestatic 133, 3) := by decide +kernel
theorem dMa_takesJump_26 : decode cMa_takesJump 26 = .ok (.lload_n 3, 1) := by decide +kernel
theorem dMa_takesJump_27 : decode cMa_takesJump 27 = .ok (.l2i, 1) := by decide +kernel
theorem dMa_takesJump_28 : decode cMa_takesJump 28 = .ok (.i2l, 1) := by decide +kernel
theorem dMa_takesJump_29 : decode cMa_takesJump 29 = .ok (.lload 5, 2) := by decide +kernel
theorem dMa_takesJump_31 : decode cMa_takesJump 31 = .ok (.l2i, 1) := by decide +kernel
theorem dMa_takesJump_32 : decode cMa_takesJump 32 = .ok (.i2l, 1) := by decide +kernel
theorem dMa_takesJump_33 : decode cMa_takesJump 33 = .ok (.invokestatic 136, 3) := by decide +kernel
theorem dMa_takesJump_36 : decode cMa_takesJump 36 = .ok (.goto 13, 3) := by decide +kernel
theorem dMa_takesJump_39 : decode cMa_takesJump 39 = .ok (.lload_n 1, 1) := by decide +kernel
theorem dMa_takesJump_40 : decode cMa_takesJump 40 = .ok (.invokestatic 133, 3) := by decide +kernel
theorem dMa_takesJump_43 : decode cMa_takesJump 43 = .ok (.lload_n 3, 1) := by decide +kernel
theorem dMa_takesJump_44 : decode cMa_takesJump 44 = .ok (.lload 5, 2) := by decide +kernel
theorem dMa_takesJump_46 : decode cMa_takesJump 46 = .ok (.invokestatic 136, 3) := by decide +kernel
theorem dMa_takesJump_49 : decode cMa_takesJump 49 = .ok (.ireturn, 1) := by decide +kernel
theorem dMa_answerCall_0 : decode cMa_answerCall 0 = .ok (.iload_n 1, 1) := by decide +kernel
theorem dMa_answerCall_1 : decode cMa_answerCall 1 = .ok (.i2l, 1) := by decide +kernel
theorem dMa_answerCall_2 : decode cMa_answerCall 2 = .ok (.lstore_n 2, 1) := by decide +kernel
theorem dMa_answerCall_3 : decode cMa_answerCall 3 = .ok (.iconst 1, 1) := by decide +kernel
theorem dMa_answerCall_4 : decode cMa_answerCall 4 = .ok (.istore 4, 2) := by decide +kernel
theorem dMa_answerCall_6 : decode cMa_answerCall 6 = .ok (.iload 4, 2) := by decide +kernel
theorem dMa_answerCall_8 : decode cMa_answerCall 8 = .ok (.iconst 5, 1) := by decide +kernel
theorem dMa_answerCall_9 : decode cMa_answerCall 9 = .ok (.if_icmp .gt 31, 3) := by decide +kernel
theorem dMa_answerCall_12 : decode cMa_answerCall 12 = .ok (.ldc2_w 140, 3) := by decide +kernel
theorem dMa_answerCall_15 : decode cMa_answerCall 15 = .ok (.lload_n 2, 1) := by decide +kernel
theorem dMa_answerCall_16 : decode cMa_answerCall 16 = .ok (.lmul, 1) := by decide +kernel
theorem dMa_answerCall_17 : decode cMa_answerCall 17 = .ok (.aload_n 0, 1) := by decide +kernel
theorem dMa_answerCall_18 : decode cMa_answerCall 18 = .ok (.getfield 7, 3) := by decide +kernel
theorem dMa_answerCall_21 : decode cMa_answerCall 21 = .ok (.iload 4, 2) := by decide +kernel
theorem dMa_answerCall_23 : decode cMa_answerCall 23 = .ok (.laload, 1) := by decide +kernel
theorem dMa_answerCall_24 : decode cMa_answerCall 24 = .ok (.ladd, 1) := by decide +kernel
theorem dMa_answerCall_25 : decode cMa_answerCall 25 = .ok (.lstore_n 2, 1) := by decide +kernel
theorem dMa_answerCall_26 : decode cMa_answerCall 26 = .ok (.aload_n 0, 1) := by decide +kernel
theorem dMa_answerCall_27 : decode cMa_answerCall 27 = .ok (.getfield 7, 3) := by decide +kernel
theorem dMa_answerCall_30 : decode cMa_answerCall 30 = .ok (.iload 4, 2) := by decide +kernel
theorem dMa_answerCall_32 : decode cMa_answerCall 32 = .ok (.lconst 0, 1) := by decide +kernel
theorem dMa_answerCall_33 : decode cMa_answerCall 33 = .ok (.lastore, 1) := by decide +kernel
theorem dMa_answerCall_34 : decode cMa_answerCall 34 = .ok (.iinc 4 1, 3) := by decide +kernel
theorem dMa_answerCall_37 : decode cMa_answerCall 37 = .ok (.goto (-31), 3) := by decide +kernel
theorem dMa_answerCall_40 : decode cMa_answerCall 40 = .ok (.aload_n 0, 1) := by decide +kernel
theorem dMa_answerCall_41 : decode cMa_answerCall 41 = .ok (.getfield 7, 3) := by decide +kernel
theorem dMa_answerCall_44 : decode cMa_answerCall 44 = .ok (.iconst 0, 1) := by decide +kernel
theorem dMa_answerCall_45 : decode cMa_answerCall 45 = .ok (.lload_n 2, 1) := by decide +kernel
theorem dMa_answerCall_46 : decode cMa_answerCall 46 = .ok (.lastore, 1) := by decide +kernel
theorem dMa_answerCall_47 : decode cMa_answerCall 47 = .ok (.return_, 1) := by decide +kernel
theorem dMa_computed_0 : decode cMa_computed 0 = .ok (.lload_n 1, 1) := by decide +kernel
theorem dMa_computed_1 : decode cMa_computed 1 = .ok (.invokestatic 133, 3) := by decide +kernel
theorem dMa_computed_4 : decode cMa_computed 4 = .ok (.istore_n 3, 1) := by decide +kernel
theorem dMa_computed_5 : decode cMa_computed 5 = .ok (.iload_n 3, 1) := by decide +kernel
theorem dMa_computed_6 : decode cMa_computed 6 = .ok (.bipush 13, 2) := by decide +kernel
theorem dMa_computed_8 : decode cMa_computed 8 = .ok (.if_icmp .ne 9, 3) := by decide +kernel
theorem dMa_computed_11 : decode cMa_computed 11 = .ok (.aload_n 0, 1) := by decide +kernel
theorem dMa_computed_12 : decode cMa_computed 12 = .ok (.lload_n 1, 1) := by decide +kernel
theorem dMa_computed_13 : decode cMa_computed 13 = .ok (.invokevirtual 142, 3) := by decide +kernel
theorem dMa_computed_16 : decode cMa_computed 16 = .ok (.lreturn, 1) := by decide +kernel
theorem dMa_computed_17 : decode cMa_computed 17 = .ok (.lload_n 1, 1) := by decide +kernel
theorem dMa_computed_18 : decode cMa_computed 18 = .ok (.invokestatic 26, 3) := by decide +kernel
theorem dMa_computed_21 : decode cMa_computed 21 = .ok (.bipush 7, 2) := by decide +kernel
theorem dMa_computed_23 : decode cMa_computed 23 = .ok (.if_icmp .ne 24, 3) := by decide +kernel
theorem dMa_computed_26 : decode cMa_computed 26 = .ok (.iload_n 3, 1) := by decide +kernel
theorem dMa_computed_27 : decode cMa_computed 27 = .ok (.lload_n 1, 1) := by decide +kernel
theorem dMa_computed_28 : decode cMa_computed 28 = .ok (.invokestatic 82, 3) := by decide +kernel
theorem dMa_computed_31 : decode cMa_computed 31 = .ok (.aload_n 0, 1) := by decide +kernel
theorem dMa_computed_32 : decode cMa_computed 32 = .ok (.lload_n 1, 1) := by decide +kernel
theorem dMa_computed_33 : decode cMa_computed 33 = .ok (.invokevirtual 94, 3) := by decide +kernel
theorem dMa_computed_36 : decode cMa_computed 36 = .ok (.aload_n 0, 1) := by decide +kernel
theorem dMa_computed_37 : decode cMa_computed 37 = .ok (.lload_n 1, 1) := by decide +kernel
theorem dMa_computed_38 : decode cMa_computed 38 = .ok (.invokevirtual 130, 3) := by decide +kernel
theorem dMa_computed_41 : decode cMa_computed 41 = .ok (.invokestatic 145, 3) := by decide +kernel
theorem dMa_computed_44 : decode cMa_computed 44 = .ok (.goto 23, 3) := by decide +kernel
theorem dMa_computed_47 : decode cMa_computed 47 = .ok (.iload_n 3, 1) := by decide +kernel
theorem dMa_computed_48 : decode cMa_computed 48 = .ok (.lload_n 1, 1) := by decide +kernel
theorem dMa_computed_49 : decode cMa_computed 49 = .ok (.invokestatic 82, 3) := by decide +kernel
theorem dMa_computed_52 : decode cMa_computed 52 = .ok (.aload_n 0, 1) := by decide +kernel
theorem dMa_computed_53 : decode cMa_computed 53 = .ok (.lload_n 1, 1) := by decide +kernel
theorem dMa_computed_54 : decode cMa_computed 54 = .ok (.invokevirtual 94, 3) := by decide +kernel
theorem dMa_computed_57 : decode cMa_computed 57 = .ok (.l2i, 1) := by decide +kernel
theorem dMa_computed_58 : decode cMa_computed 58 = .ok (.aload_n 0, 1) := by decide +kernel
theorem dMa_computed_59 : decode cMa_computed 59 = .ok (.lload_n 1, 1) := by decide +kernel
theorem dMa_computed_60 : decode cMa_computed 60 = .ok (.invokevirtual 130, 3) := by decide +kernel
theorem dMa_computed_63 : decode cMa_computed 63 = .ok (.l2i, 1) := by decide +kernel
theorem dMa_computed_64 : decode cMa_computed 64 = .ok (.invokestatic 149, 3) := by decide +kernel
theorem dMa_computed_67 : decode cMa_computed 67 = .ok (.lreturn, 1) := by decide +kernel
theorem dMa_turnedOrCut_0 : decode cMa_turnedOrCut 0 = .ok (.lload_n 1, 1) := by decide +kernel
theorem dMa_turnedOrCut_1 : decode cMa_turnedOrCut 1 = .ok (.invokestatic 40, 3) := by decide +kernel
theorem dMa_turnedOrCut_4 : decode cMa_turnedOrCut 4 = .ok (.istore_n 3, 1) := by decide +kernel
theorem dMa_turnedOrCut_5 : decode cMa_turnedOrCut 5 = .ok (.lload_n 1, 1) := by decide +kernel
theorem dMa_turnedOrCut_6 : decode cMa_turnedOrCut 6 = .ok (.invokestatic 26, 3) := by decide +kernel
theorem dMa_turnedOrCut_9 : decode cMa_turnedOrCut 9 = .ok (.bipush 7, 2) := by decide +kernel
theorem dMa_turnedOrCut_11 : decode cMa_turnedOrCut 11 = .ok (.if_icmp .eq 10, 3) := by decide +kernel
theorem dMa_turnedOrCut_14 : decode cMa_turnedOrCut 14 = .ok (.lload_n 1, 1) := by decide +kernel
theorem dMa_turnedOrCut_15 : decode cMa_turnedOrCut 15 = .ok (.invokestatic 70, 3) := by decide +kernel
theorem dMa_turnedOrCut_18 : decode cMa_turnedOrCut 18 = .ok (.ifCond .eq 7, 3) := by decide +kernel
theorem dMa_turnedOrCut_21 : decode cMa_turnedOrCut 21 = .ok (.iconst 1, 1) := by decide +kernel
theorem dMa_turnedOrCut_22 : decode cMa_turnedOrCut 22 = .ok (.goto 4, 3) := by decide +kernel
theorem dMa_turnedOrCut_25 : decode cMa_turnedOrCut 25 = .ok (.iconst 0, 1) := by decide +kernel
theorem dMa_turnedOrCut_26 : decode cMa_turnedOrCut 26 = .ok (.istore 4, 2) := by decide +kernel
theorem dMa_turnedOrCut_28 : decode cMa_turnedOrCut 28 = .ok (.iload 4, 2) := by decide +kernel
theorem dMa_turnedOrCut_30 : decode cMa_turnedOrCut 30 = .ok (.ifCond .eq 15, 3) := by decide +kernel
theorem dMa_turnedOrCut_33 : decode cMa_turnedOrCut 33 = .ok (.aload_n 0, 1) := by decide +kernel
theorem dMa_turnedOrCut_34 : decode cMa_turnedOrCut 34 = .ok (.lload_n 1, 1) := by decide +kernel
theorem dMa_turnedOrCut_35 : decode cMa_turnedOrCut 35 = .ok (.invokevirtual 94, 3) := by decide +kernel
theorem dMa_turnedOrCut_38 : decode cMa_turnedOrCut 38 = .ok (.iload_n 3, 1) := by decide +kernel
theorem dMa_turnedOrCut_39 : decode cMa_turnedOrCut 39 = .ok (.invokestatic 153, 3) := by decide +kernel
theorem dMa_turnedOrCut_42 : decode cMa_turnedOrCut 42 = .ok (.goto 12, 3) := by decide +kernel
theorem dMa_turnedOrCut_45 : decode cMa_turnedOrCut 45 = .ok (.aload_n 0, 1) := by decide +kernel
theorem dMa_turnedOrCut_46 : decode cMa_turnedOrCut 46 = .ok (.lload_n 1, 1) := by decide +kernel
theorem dMa_turnedOrCut_47 : decode cMa_turnedOrCut 47 = .ok (.invokevirtual 94, 3) := by decide +kernel
theorem dMa_turnedOrCut_50 : decode cMa_turnedOrCut 50 = .ok (.iload_n 3, 1) := by decide +kernel
theorem dMa_turnedOrCut_51 : decode cMa_turnedOrCut 51 = .ok (.invokestatic 73, 3) := by decide +kernel
theorem dMa_turnedOrCut_54 : decode cMa_turnedOrCut 54 = .ok (.lreturn, 1) := by decide +kernel
