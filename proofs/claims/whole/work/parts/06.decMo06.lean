theorem dMo_arithmetic_0 : decode cMo_arithmetic 0 = .ok (.aload_n 0, 1) := by decide +kernel
theorem dMo_arithmetic_1 : decode cMo_arithmetic 1 = .ok (.invokevirtual 57, 3) := by decide +kernel
theorem dMo_arithmetic_4 : decode cMo_arithmetic 4 = .ok (.bipush 7, 2) := by decide +kernel
theorem dMo_arithmetic_6 : decode cMo_arithmetic 6 = .ok (.if_icmp .ne 7, 3) := by decide +kernel
theorem dMo_arithmetic_9 : decode cMo_arithmetic 9 = .ok (.iconst 1, 1) := by decide +kernel
theorem dMo_arithmetic_10 : decode cMo_arithmetic 10 = .ok (.goto 4, 3) := by decide +kernel
theorem dMo_arithmetic_13 : decode cMo_arithmetic 13 = .ok (.iconst 0, 1) := by decide +kernel
theorem dMo_arithmetic_14 : decode cMo_arithmetic 14 = .ok (.istore_n 1, 1) := by decide +kernel
theorem dMo_arithmetic_15 : decode cMo_arithmetic 15 = .ok (.aload_n 0, 1) := by decide +kernel
theorem dMo_arithmetic_16 : decode cMo_arithmetic 16 = .ok (.getfield 17, 3) := by decide +kernel
theorem dMo_arithmetic_19 : decode cMo_arithmetic 19 = .ok (.aload_n 0, 1) := by decide +kernel
theorem dMo_arithmetic_20 : decode cMo_arithmetic 20 = .ok (.getfield 37, 3) := by decide +kernel
theorem dMo_arithmetic_23 : decode cMo_arithmetic 23 = .ok (.laload, 1) := by decide +kernel
theorem dMo_arithmetic_24 : decode cMo_arithmetic 24 = .ok (.lstore_n 2, 1) := by decide +kernel
theorem dMo_arithmetic_25 : decode cMo_arithmetic 25 = .ok (.aload_n 0, 1) := by decide +kernel
theorem dMo_arithmetic_26 : decode cMo_arithmetic 26 = .ok (.invokevirtual 53, 3) := by decide +kernel
theorem dMo_arithmetic_29 : decode cMo_arithmetic 29 = .ok (.ifCond .eq 15, 3) := by decide +kernel
theorem dMo_arithmetic_32 : decode cMo_arithmetic 32 = .ok (.aload_n 0, 1) := by decide +kernel
theorem dMo_arithmetic_33 : decode cMo_arithmetic 33 = .ok (.getfield 17, 3) := by decide +kernel
theorem dMo_arithmetic_36 : decode cMo_arithmetic 36 = .ok (.aload_n 0, 1) := by decide +kernel
theorem dMo_arithmetic_37 : decode cMo_arithmetic 37 = .ok (.getfield 40, 3) := by decide +kernel
theorem dMo_arithmetic_40 : decode cMo_arithmetic 40 = .ok (.laload, 1) := by decide +kernel
theorem dMo_arithmetic_41 : decode cMo_arithmetic 41 = .ok (.goto 8, 3) := by decide +kernel
theorem dMo_arithmetic_44 : decode cMo_arithmetic 44 = .ok (.aload_n 0, 1) := by decide +kernel
theorem dMo_arithmetic_45 : decode cMo_arithmetic 45 = .ok (.getfield 50, 3) := by decide +kernel
theorem dMo_arithmetic_48 : decode cMo_arithmetic 48 = .ok (.i2l, 1) := by decide +kernel
theorem dMo_arithmetic_49 : decode cMo_arithmetic 49 = .ok (.lstore 4, 2) := by decide +kernel
theorem dMo_arithmetic_51 : decode cMo_arithmetic 51 = .ok (.aload_n 0, 1) := by decide +kernel
theorem dMo_arithmetic_52 : decode cMo_arithmetic 52 = .ok (.invokevirtual 61, 3) := by decide +kernel
theorem dMo_arithmetic_55 : decode cMo_arithmetic 55 = .ok (.bipush 13, 2) := by decide +kernel
theorem dMo_arithmetic_57 : decode cMo_arithmetic 57 = .ok (.if_icmp .ne 45, 3) := by decide +kernel
theorem dMo_arithmetic_60 : decode cMo_arithmetic 60 = .ok (.aload_n 0, 1) := by decide +kernel
theorem dMo_arithmetic_61 : decode cMo_arithmetic 61 = .ok (.getfield 17, 3) := by decide +kernel
theorem dMo_arithmetic_64 : decode cMo_arithmetic 64 = .ok (.aload_n 0, 1) := by decide +kernel
theorem dMo_arithmetic_65 : decode cMo_arithmetic 65 = .ok (.getfield 37, 3) := by decide +kernel
theorem dMo_arithmetic_68 : decode cMo_arithmetic 68 = .ok (.iload_n 1, 1) := by decide +kernel
theorem dMo_arithmetic_69 : decode cMo_arithmetic 69 = .ok (.ifCond .ne 10, 3) := by decide +kernel
theorem dMo_arithmetic_72 : decode cMo_arithmetic 72 = .ok (.aload_n 0, 1) := by decide +kernel
theorem dMo_arithmetic_73 : decode cMo_arithmetic 73 = .ok (.invokevirtual 53, 3) := by decide +kernel
theorem dMo_arithmetic_76 : decode cMo_arithmetic 76 = .ok (.ifCond .eq 14, 3) := by decide +kernel
theorem dMo_arithmetic_79 : decode cMo_arithmetic 79 = .ok (.lload_n 2, 1) := by decide +kernel
theorem dMo_arithmetic_80 : decode cMo_arithmetic 80 = .ok (.aload_n 0, 1) := by decide +kernel
theorem dMo_arithmetic_81 : decode cMo_arithmetic 81 = .ok (.getfield 50, 3) := by decide +kernel
theorem dMo_arithmetic_84 : decode cMo_arithmetic 84 = .ok (.invokestatic 146, 3) := by decide +kernel
theorem dMo_arithmetic_87 : decode cMo_arithmetic 87 = .ok (.goto 11, 3) := by decide +kernel
theorem dMo_arithmetic_90 : decode cMo_arithmetic 90 = .ok (.lload_n 2, 1) := by decide +kernel
theorem dMo_arithmetic_91 : decode cMo_arithmetic 91 = .ok (.aload_n 0, 1) := by decide +kernel
theorem dMo_arithmetic_92 : decode cMo_arithmetic 92 = .ok (.getfield 50, 3) := by decide +kernel
theorem dMo_arithmetic_95 : decode cMo_arithmetic 95 = .ok (.invokestatic 136, 3) := by decide +kernel
theorem dMo_arithmetic_98 : decode cMo_arithmetic 98 = .ok (.lastore, 1) := by decide +kernel
theorem dMo_arithmetic_99 : decode cMo_arithmetic 99 = .ok (.goto 61, 3) := by decide +kernel
theorem dMo_arithmetic_102 : decode cMo_arithmetic 102 = .ok (.iload_n 1, 1) := by decide +kernel
theorem dMo_arithmetic_103 : decode cMo_arithmetic 103 = .ok (.ifCond .eq 24, 3) := by decide +kernel
theorem dMo_arithmetic_106 : decode cMo_arithmetic 106 = .ok (.aload_n 0, 1) := by decide +kernel
theorem dMo_arithmetic_107 : decode cMo_arithmetic 107 = .ok (.getfield 17, 3) := by decide +kernel
theorem dMo_arithmetic_110 : decode cMo_arithmetic 110 = .ok (.aload_n 0, 1) := by decide +kernel
theorem dMo_arithmetic_111 : decode cMo_arithmetic 111 = .ok (.getfield 37, 3) := by decide +kernel
theorem dMo_arithmetic_114 : decode cMo_arithmetic 114 = .ok (.aload_n 0, 1) := by decide +kernel
theorem dMo_arithmetic_115 : decode cMo_arithmetic 115 = .ok (.lload_n 2, 1) := by decide +kernel
theorem dMo_arithmetic_116 : decode cMo_arithmetic 116 = .ok (.lload 4, 2) := by decide +kernel
theorem dMo_arithmetic_118 : decode cMo_arithmetic 118 = .ok (.bipush 64, 2) := by decide +kernel
theorem dMo_arithmetic_120 : decode cMo_arithmetic 120 = .ok (.invokevirtual 149, 3) := by decide +kernel
theorem dMo_arithmetic_123 : decode cMo_arithmetic 123 = .ok (.lastore, 1) := by decide +kernel
theorem dMo_arithmetic_124 : decode cMo_arithmetic 124 = .ok (.goto 36, 3) := by decide +kernel
theorem dMo_arithmetic_127 : decode cMo_arithmetic 127 = .ok (.aload_n 0, 1) := by decide +kernel
theorem dMo_arithmetic_128 : decode cMo_arithmetic 128 = .ok (.getfield 17, 3) := by decide +kernel
theorem dMo_arithmetic_131 : decode cMo_arithmetic 131 = .ok (.aload_n 0, 1) := by decide +kernel
theorem dMo_arithmetic_132 : decode cMo_arithmetic 132 = .ok (.getfield 37, 3) := by decide +kernel
theorem dMo_arithmetic_135 : decode cMo_arithmetic 135 = .ok (.aload_n 0, 1) := by decide +kernel
theorem dMo_arithmetic_136 : decode cMo_arithmetic 136 = .ok (.lload_n 2, 1) := by decide +kernel
theorem dMo_arithmetic_137 : decode cMo_arithmetic 137 = .ok (.bipush 32, 2) := by decide +kernel
theorem dMo_arithmetic_139 : decode cMo_arithmetic 139 = .ok (.invokestatic 143, 3) := by decide +kernel
theorem dMo_arithmetic_142 : decode cMo_arithmetic 142 = .ok (.lload 4, 2) := by decide +kernel
theorem dMo_arithmetic_144 : decode cMo_arithmetic 144 = .ok (.bipush 32, 2) := by decide +kernel
theorem dMo_arithmetic_146 : decode cMo_arithmetic 146 = .ok (.invokestatic 143, 3) := by decide +kernel
theorem dMo_arithmetic_149 : decode cMo_arithmetic 149 = .ok (.bipush 32, 2) := by decide +kernel
theorem dMo_arithmetic_151 : decode cMo_arithmetic 151 = .ok (.invokevirtual 149, 3) := by decide +kernel
theorem dMo_arithmetic_154 : decode cMo_arithmetic 154 = .ok (.bipush 32, 2) := by decide +kernel
theorem dMo_arithmetic_156 : decode cMo_arithmetic 156 = .ok (.invokestatic 136, 3) := by decide +kernel
theorem dMo_arithmetic_159 : decode cMo_arithmetic 159 = .ok (.lastore, 1) := by decide +kernel
theorem dMo_arithmetic_160 : decode cMo_arithmetic 160 = .ok (.return_, 1) := by decide +kernel
theorem dMo_isSo_0 : decode cMo_isSo 0 = .ok (.aload_n 0, 1) := by decide +kernel
theorem dMo_isSo_1 : decode cMo_isSo 1 = .ok (.invokevirtual 61, 3) := by decide +kernel
theorem dMo_isSo_4 : decode cMo_isSo 4 = .ok (.tableswitch 178 1 12 #[64, 76, 82, 96, 110, 122, 134, 178, 178, 146, 152, 166], 64) := by decide +kernel
theorem dMo_isSo_68 : decode cMo_isSo 68 = .ok (.lload_n 1, 1) := by decide +kernel
theorem dMo_isSo_69 : decode cMo_isSo 69 = .ok (.lload_n 3, 1) := by decide +kernel
theorem dMo_isSo_70 : decode cMo_isSo 70 = .ok (.lcmp, 1) := by decide +kernel
theorem dMo_isSo_71 : decode cMo_isSo 71 = .ok (.ifCond .ne 7, 3) := by decide +kernel
theorem dMo_isSo_74 : decode cMo_isSo 74 = .ok (.iconst 1, 1) := by decide +kernel
theorem dMo_isSo_75 : decode cMo_isSo 75 = .ok (.goto 4, 3) := by decide +kernel
theorem dMo_isSo_78 : decode cMo_isSo 78 = .ok (.iconst 0, 1) := by decide +kernel
theorem dMo_isSo_79 : decode cMo_isSo 79 = .ok (.ireturn, 1) := by decide +kernel
theorem dMo_isSo_80 : decode cMo_isSo 80 = .ok (.lload_n 3, 1) := by decide +kernel
theorem dMo_isSo_81 : decode cMo_isSo 81 = .ok (.lload_n 1, 1) := by decide +kernel
theorem dMo_isSo_82 : decode cMo_isSo 82 = .ok (.invokestatic 126, 3) := by decide +kernel
theorem dMo_isSo_85 : decode cMo_isSo 85 = .ok (.ireturn, 1) := by decide +kernel
theorem dMo_isSo_86 : decode cMo_isSo 86 = .ok (.lload_n 1, 1) := by decide +kernel
theorem dMo_isSo_87 : decode cMo_isSo 87 = .ok (.lload_n 3, 1) := by decide +kernel
theorem dMo_isSo_88 : decode cMo_isSo 88 = .ok (.invokestatic 126, 3) := by decide +kernel
theorem dMo_isSo_91 : decode cMo_isSo 91 = .ok (.ifCond .ne 7, 3) := by decide +kernel
theorem dMo_isSo_94 : decode cMo_isSo 94 = .ok (.iconst 1, 1) := by decide +kernel
theorem dMo_isSo_95 : decode cMo_isSo 95 = .ok (.goto 4, 3) := by decide +kernel
theorem dMo_isSo_98 : decode cMo_isSo 98 = .ok (.iconst 0, 1) := by decide +kernel
theorem dMo_isSo_99 : decode cMo_isSo 99 = .ok (.ireturn, 1) := by decide +kernel
theorem dMo_isSo_100 : decode cMo_isSo 100 = .ok (.lload_n 1, 1) := by decide +kernel
theorem dMo_isSo_101 : decode cMo_isSo 101 = .ok (.lload_n 3, 1) := by decide +kernel
theorem dMo_isSo_102 : decode cMo_isSo 102 = .ok (.land, 1) := by decide +kernel
theorem dMo_isSo_103 : decode cMo_isSo 103 = .ok (.lconst 0, 1) := by decide +kernel
theorem dMo_isSo_104 : decode cMo_isSo 104 = .ok (.lcmp, 1) := by decide +kernel
theorem dMo_isSo_105 : decode cMo_isSo 105 = .ok (.ifCond .eq 7, 3) := by decide +kernel
theorem dMo_isSo_108 : decode cMo_isSo 108 = .ok (.iconst 1, 1) := by decide +kernel
theorem dMo_isSo_109 : decode cMo_isSo 109 = .ok (.goto 4, 3) := by decide +kernel
theorem dMo_isSo_112 : decode cMo_isSo 112 = .ok (.iconst 0, 1) := by decide +kernel
theorem dMo_isSo_113 : decode cMo_isSo 113 = .ok (.ireturn, 1) := by decide +kernel
theorem dMo_isSo_114 : decode cMo_isSo 114 = .ok (.lload_n 1, 1) := by decide +kernel
theorem dMo_isSo_115 : decode cMo_isSo 115 = .ok (.lload_n 3, 1) := by decide +kernel
theorem dMo_isSo_116 : decode cMo_isSo 116 = .ok (.lcmp, 1) := by decide +kernel
theorem dMo_isSo_117 : decode cMo_isSo 117 = .ok (.ifCond .eq 7, 3) := by decide +kernel
theorem dMo_isSo_120 : decode cMo_isSo 120 = .ok (.iconst 1, 1) := by decide +kernel
theorem dMo_isSo_121 : decode cMo_isSo 121 = .ok (.goto 4, 3) := by decide +kernel
theorem dMo_isSo_124 : decode cMo_isSo 124 = .ok (.iconst 0, 1) := by decide +kernel
theorem dMo_isSo_125 : decode cMo_isSo 125 = .ok (.ireturn, 1) := by decide +kernel
theorem dMo_isSo_126 : decode cMo_isSo 126 = .ok (.lload_n 1, 1) := by decide +kernel
theorem dMo_isSo_127 : decode cMo_isSo 127 = .ok (.lload_n 3, 1) := by decide +kernel
theorem dMo_isSo_128 : decode cMo_isSo 128 = .ok (.lcmp, 1) := by decide +kernel
theorem dMo_isSo_129 : decode cMo_isSo 129 = .ok (.ifCond .le 7, 3) := by decide +kernel
theorem dMo_isSo_132 : decode cMo_isSo 132 = .ok (.iconst 1, 1) := by decide +kernel
theorem dMo_isSo_133 : decode cMo_isSo 133 = .ok (.goto 4, 3) := by decide +kernel
theorem dMo_isSo_136 : decode cMo_isSo 136 = .ok (.iconst 0, 1) := by decide +kernel
theorem dMo_isSo_137 : decode cMo_isSo 137 = .ok (.ireturn, 1) := by decide +kernel
theorem dMo_isSo_138 : decode cMo_isSo 138 = .ok (.lload_n 1, 1) := by decide +kernel
theorem dMo_isSo_139 : decode cMo_isSo 139 = .ok (.lload_n 3, 1) := by decide +kernel
theorem dMo_isSo_140 : decode cMo_isSo 140 = .ok (.lcmp, 1) := by decide +kernel
theorem dMo_isSo_141 : decode cMo_isSo 141 = .ok (.ifCond .lt 7, 3) := by decide +kernel
theorem dMo_isSo_144 : decode cMo_isSo 144 = .ok (.iconst 1, 1) := by decide +kernel
theorem dMo_isSo_145 : decode cMo_isSo 145 = .ok (.goto 4, 3) := by decide +kernel
theorem dMo_isSo_148 : decode cMo_isSo 148 = .ok (.iconst 0, 1) := by decide +kernel
theorem dMo_isSo_149 : decode cMo_isSo 149 = .ok (.ireturn, 1) := by decide +kernel
theorem dMo_isSo_150 : decode cMo_isSo 150 = .ok (.lload_n 1, 1) := by decide +kernel
theorem dMo_isSo_151 : decode cMo_isSo 151 = .ok (.lload_n 3, 1) := by decide +kernel
theorem dMo_isSo_152 : decode cMo_isSo 152 = .ok (.invokestatic 126, 3) := by decide +kernel
theorem dMo_isSo_155 : decode cMo_isSo 155 = .ok (.ireturn, 1) := by decide +kernel
theorem dMo_isSo_156 : decode cMo_isSo 156 = .ok (.lload_n 3, 1) := by decide +kernel
theorem dMo_isSo_157 : decode cMo_isSo 157 = .ok (.lload_n 1, 1) := by decide +kernel
theorem dMo_isSo_158 : decode cMo_isSo 158 = .ok (.invokestatic 126, 3) := by decide +kernel
theorem dMo_isSo_161 : decode cMo_isSo 161 = .ok (.ifCond .ne 7, 3) := by decide +kernel
theorem dMo_isSo_164 : decode cMo_isSo 164 = .ok (.iconst 1, 1) := by decide +kernel
theorem dMo_isSo_165 : decode cMo_isSo 165 = .ok (.goto 4, 3) := by decide +kernel
theorem dMo_isSo_168 : decode cMo_isSo 168 = .ok (.iconst 0, 1) := by decide +kernel
theorem dMo_isSo_169 : decode cMo_isSo 169 = .ok (.ireturn, 1) := by decide +kernel
theorem dMo_isSo_170 : decode cMo_isSo 170 = .ok (.lload_n 1, 1) := by decide +kernel
theorem dMo_isSo_171 : decode cMo_isSo 171 = .ok (.lload_n 3, 1) := by decide +kernel
theorem dMo_isSo_172 : decode cMo_isSo 172 = .ok (.lcmp, 1) := by decide +kernel
theorem dMo_isSo_173 : decode cMo_isSo 173 = .ok (.ifCond .ge 7, 3) := by decide +kernel
theorem dMo_isSo_176 : decode cMo_isSo 176 = .ok (.iconst 1, 1) := by decide +kernel
theorem dMo_isSo_177 : decode cMo_isSo 177 = .ok (.goto 4, 3) := by decide +kernel
theorem dMo_isSo_180 : decode cMo_isSo 180 = .ok (.iconst 0, 1) := by decide +kernel
theorem dMo_isSo_181 : decode cMo_isSo 181 = .ok (.ireturn, 1) := by decide +kernel
theorem dMo_isSo_182 : decode cMo_isSo 182 = .ok (.lload_n 1, 1) := by decide +kernel
theorem dMo_isSo_183 : decode cMo_isSo 183 = .ok (.lload_n 3, 1) := by decide +kernel
theorem dMo_isSo_184 : decode cMo_isSo 184 = .ok (.lcmp, 1) := by decide +kernel
theorem dMo_isSo_185 : decode cMo_isSo 185 = .ok (.ifCond .gt 7, 3) := by decide +kernel
theorem dMo_isSo_188 : decode cMo_isSo 188 = .ok (.iconst 1, 1) := by decide +kernel
theorem dMo_isSo_189 : decode cMo_isSo 189 = .ok (.goto 4, 3) := by decide +kernel
theorem dMo_isSo_192 : decode cMo_isSo 192 = .ok (.iconst 0, 1) := by decide +kernel
theorem dMo_isSo_193 : decode cMo_isSo 193 = .ok (.ireturn, 1) := by decide +kernel
theorem dMo_call_0 : decode cMo_call 0 = .ok (.aload_n 0, 1) := by decide +kernel
theorem dMo_call_1 : decode cMo_call 1 = .ok (.getfield 50, 3) := by decide +kernel
theorem dMo_call_4 : decode cMo_call 4 = .ok (.i2l, 1) := by decide +kernel
theorem dMo_call_5 : decode cMo_call 5 = .ok (.lstore_n 1, 1) := by decide +kernel
theorem dMo_call_6 : decode cMo_call 6 = .ok (.iconst 1, 1) := by decide +kernel
theorem dMo_call_7 : decode cMo_call 7 = .ok (.istore_n 3, 1) := by decide +kernel
theorem dMo_call_8 : decode cMo_call 8 = .ok (.iload_n 3, 1) := by decide +kernel
theorem dMo_call_9 : decode cMo_call 9 = .ok (.bipush 6, 2) := by decide +kernel
theorem dMo_call_11 : decode cMo_call 11 = .ok (.if_icmp .ge 29, 3) := by decide +kernel
theorem dMo_call_14 : decode cMo_call 14 = .ok (.ldc2_w 153, 3) := by decide +kernel
theorem dMo_call_17 : decode cMo_call 17 = .ok (.lload_n 1, 1) := by decide +kernel
theorem dMo_call_18 : decode cMo_call 18 = .ok (.lmul, 1) := by decide +kernel
theorem dMo_call_19 : decode cMo_call 19 = .ok (.aload_n 0, 1) := by decide +kernel
theorem dMo_call_20 : decode cMo_call 20 = .ok (.getfield 17, 3) := by decide +kernel
theorem dMo_call_23 : decode cMo_call 23 = .ok (.iload_n 3, 1) := by decide +kernel
theorem dMo_call_24 : decode cMo_call 24 = .ok (.laload, 1) := by decide +kernel
theorem dMo_call_25 : decode cMo_call 25 = .ok (.ladd, 1) := by decide +kernel
theorem dMo_call_26 : decode cMo_call 26 = .ok (.lstore_n 1, 1) := by decide +kernel
theorem dMo_call_27 : decode cMo_call 27 = .ok (.aload_n 0, 1) := by decide +kernel
theorem dMo_call_28 : decode cMo_call 28 = .ok (.getfield 17, 3) := by decide +kernel
theorem dMo_call_31 : decode cMo_call 31 = .ok (.iload_n 3, 1) := by decide +kernel
theorem dMo_call_32 : decode cMo_call 32 = .ok (.lconst 0, 1) := by decide +kernel
theorem dMo_call_33 : decode cMo_call 33 = .ok (.lastore, 1) := by decide +kernel
theorem dMo_call_34 : decode cMo_call 34 = .ok (.iinc 3 1, 3) := by decide +kernel
theorem dMo_call_37 : decode cMo_call 37 = .ok (.goto (-29), 3) := by decide +kernel
theorem dMo_call_40 : decode cMo_call 40 = .ok (.aload_n 0, 1) := by decide +kernel
theorem dMo_call_41 : decode cMo_call 41 = .ok (.getfield 17, 3) := by decide +kernel
theorem dMo_call_44 : decode cMo_call 44 = .ok (.iconst 0, 1) := by decide +kernel
theorem dMo_call_45 : decode cMo_call 45 = .ok (.lload_n 1, 1) := by decide +kernel
theorem dMo_call_46 : decode cMo_call 46 = .ok (.lastore, 1) := by decide +kernel
theorem dMo_call_47 : decode cMo_call 47 = .ok (.return_, 1) := by decide +kernel
theorem dMo_jump_0 : decode cMo_jump 0 = .ok (.aload_n 0, 1) := by decide +kernel
theorem dMo_jump_1 : decode cMo_jump 1 = .ok (.invokevirtual 61, 3) := by decide +kernel
theorem dMo_jump_4 : decode cMo_jump 4 = .ok (.bipush 8, 2) := by decide +kernel
theorem dMo_jump_6 : decode cMo_jump 6 = .ok (.if_icmp .ne 8, 3) := by decide +kernel
theorem dMo_jump_9 : decode cMo_jump 9 = .ok (.aload_n 0, 1) := by decide +kernel
theorem dMo_jump_10 : decode cMo_jump 10 = .ok (.invokevirtual 155, 3) := by decide +kernel
theorem dMo_jump_13 : decode cMo_jump 13 = .ok (.return_, 1) := by decide +kernel
theorem dMo_jump_14 : decode cMo_jump 14 = .ok (.aload_n 0, 1) := by decide +kernel
theorem dMo_jump_15 : decode cMo_jump 15 = .ok (.invokevirtual 61, 3) := by decide +kernel
theorem dMo_jump_18 : decode cMo_jump 18 = .ok (.ifCond .ne 32, 3) := by decide +kernel
theorem dMo_jump_21 : decode cMo_jump 21 = .ok (.aload_n 0, 1) := by decide +kernel
theorem dMo_jump_22 : decode cMo_jump 22 = .ok (.iload_n 1, 1) := by decide +kernel
theorem dMo_jump_23 : decode cMo_jump 23 = .ok (.iconst 1, 1) := by decide +kernel
theorem dMo_jump_24 : decode cMo_jump 24 = .ok (.iadd, 1) := by decide +kernel
theorem dMo_jump_25 : decode cMo_jump 25 = .ok (.aload_n 0, 1) := by decide +kernel
theorem dMo_jump_26 : decode cMo_jump 26 = .ok (.invokevirtual 57, 3) := by decide +kernel
theorem dMo_jump_29 : decode cMo_jump 29 = .ok (.bipush 6, 2) := by decide +kernel
theorem dMo_jump_31 : decode cMo_jump 31 = .ok (.if_icmp .ne 10, 3) := by decide +kernel
theorem dMo_jump_34 : decode cMo_jump 34 = .ok (.aload_n 0, 1) := by decide +kernel
theorem dMo_jump_35 : decode cMo_jump 35 = .ok (.getfield 50, 3) := by decide +kernel
theorem dMo_jump_38 : decode cMo_jump 38 = .ok (.goto 7, 3) := by decide +kernel
theorem dMo_jump_41 : decode cMo_jump 41 = .ok (.aload_n 0, 1) := by decide +kernel
theorem dMo_jump_42 : decode cMo_jump 42 = .ok (.getfield 47, 3) := by decide +kernel
theorem dMo_jump_45 : decode cMo_jump 45 = .ok (.iadd, 1) := by decide +kernel
theorem dMo_jump_46 : decode cMo_jump 46 = .ok (.putfield 158, 3) := by decide +kernel
theorem dMo_jump_49 : decode cMo_jump 49 = .ok (.return_, 1) := by decide +kernel
theorem dMo_jump_50 : decode cMo_jump 50 = .ok (.aload_n 0, 1) := by decide +kernel
theorem dMo_jump_51 : decode cMo_jump 51 = .ok (.invokevirtual 57, 3) := by decide +kernel
theorem dMo_jump_54 : decode cMo_jump 54 = .ok (.iconst 5, 1) := by decide +kernel
theorem dMo_jump_55 : decode cMo_jump 55 = .ok (.if_icmp .ne 8, 3) := by decide +kernel
theorem dMo_jump_58 : decode cMo_jump 58 = .ok (.bipush 64, 2) := by decide +kernel
theorem dMo_jump_60 : decode cMo_jump 60 = .ok (.goto 5, 3) := by decide +kernel
theorem dMo_jump_63 : decode cMo_jump 63 = .ok (.bipush 32, 2) := by decide +kernel
theorem dMo_jump_65 : decode cMo_jump 65 = .ok (.istore_n 2, 1) := by decide +kernel
theorem dMo_jump_66 : decode cMo_jump 66 = .ok (.aload_n 0, 1) := by decide +kernel
theorem dMo_jump_67 : decode cMo_jump 67 = .ok (.getfield 17, 3) := by decide +kernel
theorem dMo_jump_70 : decode cMo_jump 70 = .ok (.aload_n 0, 1) := by decide +kernel
theorem dMo_jump_71 : decode cMo_jump 71 = .ok (.getfield 37, 3) := by decide +kernel
theorem dMo_jump_74 : decode cMo_jump 74 = .ok (.laload, 1) := by decide +kernel
theorem dMo_jump_75 : decode cMo_jump 75 = .ok (.iload_n 2, 1) := by decide +kernel
theorem dMo_jump_76 : decode cMo_jump 76 = .ok (.invokestatic 143, 3) := by decide +kernel
theorem dMo_jump_79 : decode cMo_jump 79 = .ok (.lstore_n 3, 1) := by decide +kernel
theorem dMo_jump_80 : decode cMo_jump 80 = .ok (.aload_n 0, 1) := by decide +kernel
theorem dMo_jump_81 : decode cMo_jump 81 = .ok (.invokevirtual 53, 3) := by decide +kernel
theorem dMo_jump_84 : decode cMo_jump 84 = .ok (.ifCond .eq 15, 3) := by decide +kernel
theorem dMo_jump_87 : decode cMo_jump 87 = .ok (.aload_n 0, 1) := by decide +kernel
theorem dMo_jump_88 : decode cMo_jump 88 = .ok (.getfield 17, 3) := by decide +kernel
theorem dMo_jump_91 : decode cMo_jump 91 = .ok (.aload_n 0, 1) := by decide +kernel
theorem dMo_jump_92 : decode cMo_jump 92 = .ok (.getfield 40, 3) := by decide +kernel
theorem dMo_jump_95 : decode cMo_jump 95 = .ok (.laload, 1) := by decide +kernel
theorem dMo_jump_96 : decode cMo_jump 96 = .ok (.goto 8, 3) := by decide +kernel
theorem dMo_jump_99 : decode cMo_jump 99 = .ok (.aload_n 0, 1) := by decide +kernel
theorem dMo_jump_100 : decode cMo_jump 100 = .ok (.getfield 50, 3) := by decide +kernel
theorem dMo_jump_103 : decode cMo_jump 103 = .ok (.i2l, 1) := by decide +kernel
theorem dMo_jump_104 : decode cMo_jump 104 = .ok (.iload_n 2, 1) := by decide +kernel
theorem dMo_jump_105 : decode cMo_jump 105 = .ok (.invokestatic 143, 3) := by decide +kernel
theorem dMo_jump_108 : decode cMo_jump 108 = .ok (.lstore 5, 2) := by decide +kernel
theorem dMo_jump_110 : decode cMo_jump 110 = .ok (.aload_n 0, 1) := by decide +kernel
theorem dMo_jump_111 : decode cMo_jump 111 = .ok (.aload_n 0, 1) := by decide +kernel
theorem dMo_jump_112 : decode cMo_jump 112 = .ok (.lload_n 3, 1) := by decide +kernel
theorem dMo_jump_113 : decode cMo_jump 113 = .ok (.lload 5, 2) := by decide +kernel
theorem dMo_jump_115 : decode cMo_jump 115 = .ok (.invokevirtual 161, 3) := by decide +kernel
theorem dMo_jump_118 : decode cMo_jump 118 = .ok (.ifCond .eq 14, 3) := by decide +kernel
theorem dMo_jump_121 : decode cMo_jump 121 = .ok (.iload_n 1, 1) := by decide +kernel
theorem dMo_jump_122 : decode cMo_jump 122 = .ok (.iconst 1, 1) := by decide +kernel
theorem dMo_jump_123 : decode cMo_jump 123 = .ok (.iadd, 1) := by decide +kernel
theorem dMo_jump_124 : decode cMo_jump 124 = .ok (.aload_n 0, 1) := by decide +kernel
theorem dMo_jump_125 : decode cMo_jump 125 = .ok (.getfield 47, 3) := by decide +kernel
theorem dMo_jump_128 : decode cMo_jump 128 = .ok (.iadd, 1) := by decide +kernel
theorem dMo_jump_129 : decode cMo_jump 129 = .ok (.goto 7, 3) := by decide +kernel
theorem dMo_jump_132 : decode cMo_jump 132 = .ok (.aload_n 0, 1) := by decide +kernel
theorem dMo_jump_133 : decode cMo_jump 133 = .ok (.getfield 158, 3) := by decide +kernel
theorem dMo_jump_136 : decode cMo_jump 136 = .ok (.putfield 158, 3) := by decide +kernel
theorem dMo_jump_139 : decode cMo_jump 139 = .ok (.return_, 1) := by decide +kernel
theorem dMo_atomic_0 : decode cMo_atomic 0 = .ok (.lload_n 1, 1) := by decide +kernel
theorem dMo_atomic_1 : decode cMo_atomic 1 = .ok (.iload_n 3, 1) := by decide +kernel
theorem dMo_atomic_2 : decode cMo_atomic 2 = .ok (.invokestatic 113, 3) := by decide +kernel
theorem dMo_atomic_5 : decode cMo_atomic 5 = .ok (.ifCond .eq 12, 3) := by decide +kernel
theorem dMo_atomic_8 : decode cMo_atomic 8 = .ok (.lload_n 1, 1) := by decide +kernel
theorem dMo_atomic_9 : decode cMo_atomic 9 = .ok (.iload_n 3, 1) := by decide +kernel
theorem dMo_atomic_10 : decode cMo_atomic 10 = .ok (.i2l, 1) := by decide +kernel
theorem dMo_atomic_11 : decode cMo_atomic 11 = .ok (.lrem, 1) := by decide +kernel
theorem dMo_atomic_12 : decode cMo_atomic 12 = .ok (.lconst 0, 1) := by decide +kernel
theorem dMo_atomic_13 : decode cMo_atomic 13 = .ok (.lcmp, 1) := by decide +kernel
theorem dMo_atomic_14 : decode cMo_atomic 14 = .ok (.ifCond .eq 5, 3) := by decide +kernel
theorem dMo_atomic_17 : decode cMo_atomic 17 = .ok (.iconst 0, 1) := by decide +kernel
theorem dMo_atomic_18 : decode cMo_atomic 18 = .ok (.ireturn, 1) := by decide +kernel
theorem dMo_atomic_19 : decode cMo_atomic 19 = .ok (.aload_n 0, 1) := by decide +kernel
theorem dMo_atomic_20 : decode cMo_atomic 20 = .ok (.lload_n 1, 1) := by decide +kernel
theorem dMo_atomic_21 : decode cMo_atomic 21 = .ok (.iload_n 3, 1) := by decide +kernel
theorem dMo_atomic_22 : decode cMo_atomic 22 = .ok (.invokevirtual 120, 3) := by decide +kernel
theorem dMo_atomic_25 : decode cMo_atomic 25 = .ok (.lstore 4, 2) := by decide +kernel
theorem dMo_atomic_27 : decode cMo_atomic 27 = .ok (.aload_n 0, 1) := by decide +kernel
theorem dMo_atomic_28 : decode cMo_atomic 28 = .ok (.getfield 17, 3) := by decide +kernel
theorem dMo_atomic_31 : decode cMo_atomic 31 = .ok (.aload_n 0, 1) := by decide +kernel
theorem dMo_atomic_32 : decode cMo_atomic 32 = .ok (.getfield 40, 3) := by decide +kernel
theorem dMo_atomic_35 : decode cMo_atomic 35 = .ok (.laload, 1) := by decide +kernel
theorem dMo_atomic_36 : decode cMo_atomic 36 = .ok (.lstore 6, 2) := by decide +kernel
theorem dMo_atomic_38 : decode cMo_atomic 38 = .ok (.aload_n 0, 1) := by decide +kernel
theorem dMo_atomic_39 : decode cMo_atomic 39 = .ok (.getfield 50, 3) := by decide +kernel
theorem dMo_atomic_42 : decode cMo_atomic 42 = .ok (.bipush (-2), 2) := by decide +kernel
theorem dMo_atomic_44 : decode cMo_atomic 44 = .ok (.iand, 1) := by decide +kernel
theorem dMo_atomic_45 : decode cMo_atomic 45 = .ok (.istore 8, 2) := by decide +kernel
theorem dMo_atomic_47 : decode cMo_atomic 47 = .ok (.aload_n 0, 1) := by decide +kernel
theorem dMo_atomic_48 : decode cMo_atomic 48 = .ok (.getfield 50, 3) := by decide +kernel
theorem dMo_atomic_51 : decode cMo_atomic 51 = .ok (.sipush 225, 3) := by decide +kernel
theorem dMo_atomic_54 : decode cMo_atomic 54 = .ok (.if_icmp .ne 8, 3) := by decide +kernel
theorem dMo_atomic_57 : decode cMo_atomic 57 = .ok (.lload 6, 2) := by decide +kernel
theorem dMo_atomic_59 : decode cMo_atomic 59 = .ok (.goto 90, 3) := by decide +kernel
theorem dMo_atomic_62 : decode cMo_atomic 62 = .ok (.aload_n 0, 1) := by decide +kernel
theorem dMo_atomic_63 : decode cMo_atomic 63 = .ok (.getfield 50, 3) := by decide +kernel
theorem dMo_atomic_66 : decode cMo_atomic 66 = .ok (.sipush 241, 3) := by decide +kernel
theorem dMo_atomic_69 : decode cMo_atomic 69 = .ok (.if_icmp .ne 32, 3) := by decide +kernel
theorem dMo_atomic_72 : decode cMo_atomic 72 = .ok (.lload 4, 2) := by decide +kernel
theorem dMo_atomic_74 : decode cMo_atomic 74 = .ok (.aload_n 0, 1) := by decide +kernel
theorem dMo_atomic_75 : decode cMo_atomic 75 = .ok (.getfield 17, 3) := by decide +kernel
theorem dMo_atomic_78 : decode cMo_atomic 78 = .ok (.iconst 0, 1) := by decide +kernel
theorem dMo_atomic_79 : decode cMo_atomic 79 = .ok (.laload, 1) := by decide +kernel
theorem dMo_atomic_80 : decode cMo_atomic 80 = .ok (.bipush 8, 2) := by decide +kernel
theorem dMo_atomic_82 : decode cMo_atomic 82 = .ok (.iload_n 3, 1) := by decide +kernel
theorem dMo_atomic_83 : decode cMo_atomic 83 = .ok (.imul, 1) := by decide +kernel
theorem dMo_atomic_84 : decode cMo_atomic 84 = .ok (.invokestatic 136, 3) := by decide +kernel
theorem dMo_atomic_87 : decode cMo_atomic 87 = .ok (.lcmp, 1) := by decide +kernel
theorem dMo_atomic_88 : decode cMo_atomic 88 = .ok (.ifCond .ne 8, 3) := by decide +kernel
theorem dMo_atomic_91 : decode cMo_atomic 91 = .ok (.lload 6, 2) := by decide +kernel
theorem dMo_atomic_93 : decode cMo_atomic 93 = .ok (.goto 56, 3) := by decide +kernel
theorem dMo_atomic_96 : decode cMo_atomic 96 = .ok (.lload 4, 2) := by decide +kernel
theorem dMo_atomic_98 : decode cMo_atomic 98 = .ok (.goto 51, 3) := by decide +kernel
theorem dMo_atomic_101 : decode cMo_atomic 101 = .ok (.iload 8, 2) := by decide +kernel
theorem dMo_atomic_103 : decode cMo_atomic 103 = .ok (.ifCond .ne 11, 3) := by decide +kernel
theorem dMo_atomic_106 : decode cMo_atomic 106 = .ok (.lload 4, 2) := by decide +kernel
theorem dMo_atomic_108 : decode cMo_atomic 108 = .ok (.lload 6, 2) := by decide +kernel
theorem dMo_atomic_110 : decode cMo_atomic 110 = .ok (.ladd, 1) := by decide +kernel
theorem dMo_atomic_111 : decode cMo_atomic 111 = .ok (.goto 38, 3) := by decide +kernel
theorem dMo_atomic_114 : decode cMo_atomic 114 = .ok (.iload 8, 2) := by decide +kernel
theorem dMo_atomic_116 : decode cMo_atomic 116 = .ok (.bipush 64, 2) := by decide +kernel
theorem dMo_atomic_118 : decode cMo_atomic 118 = .ok (.if_icmp .ne 11, 3) := by decide +kernel
theorem dMo_atomic_121 : decode cMo_atomic 121 = .ok (.lload 4, 2) := by decide +kernel
theorem dMo_atomic_123 : decode cMo_atomic 123 = .ok (.lload 6, 2) := by decide +kernel
theorem dMo_atomic_125 : decode cMo_atomic 125 = .ok (.lor, 1) := by decide +kernel
theorem dMo_atomic_126 : decode cMo_atomic 126 = .ok (.goto 23, 3) := by decide +kernel
theorem dMo_atomic_129 : decode cMo_atomic 129 = .ok (.iload 8, 2) := by decide +kernel
theorem dMo_atomic_131 : decode cMo_atomic 131 = .ok (.bipush 80, 2) := by decide +kernel
theorem dMo_atomic_133 : decode cMo_atomic 133 = .ok (.if_icmp .ne 11, 3) := by decide +kernel
theorem dMo_atomic_136 : decode cMo_atomic 136 = .ok (.lload 4, 2) := by decide +kernel
theorem dMo_atomic_138 : decode cMo_atomic 138 = .ok (.lload 6, 2) := by decide +kernel
theorem dMo_atomic_140 : decode cMo_atomic 140 = .ok (.land, 1) := by decide +kernel
theorem dMo_atomic_141 : decode cMo_atomic 141 = .ok (.goto 8, 3) := by decide +kernel
theorem dMo_atomic_144 : decode cMo_atomic 144 = .ok (.lload 4, 2) := by decide +kernel
theorem dMo_atomic_146 : decode cMo_atomic 146 = .ok (.lload 6, 2) := by decide +kernel
theorem dMo_atomic_148 : decode cMo_atomic 148 = .ok (.lxor, 1) := by decide +kernel
theorem dMo_atomic_149 : decode cMo_atomic 149 = .ok (.lstore 9, 2) := by decide +kernel
theorem dMo_atomic_151 : decode cMo_atomic 151 = .ok (.aload_n 0, 1) := by decide +kernel
theorem dMo_atomic_152 : decode cMo_atomic 152 = .ok (.lload_n 1, 1) := by decide +kernel
theorem dMo_atomic_153 : decode cMo_atomic 153 = .ok (.iload_n 3, 1) := by decide +kernel
theorem dMo_atomic_154 : decode cMo_atomic 154 = .ok (.lload 9, 2) := by decide +kernel
theorem dMo_atomic_156 : decode cMo_atomic 156 = .ok (.invokevirtual 116, 3) := by decide +kernel
theorem dMo_atomic_159 : decode cMo_atomic 159 = .ok (.aload_n 0, 1) := by decide +kernel
theorem dMo_atomic_160 : decode cMo_atomic 160 = .ok (.getfield 50, 3) := by decide +kernel
theorem dMo_atomic_163 : decode cMo_atomic 163 = .ok (.sipush 241, 3) := by decide +kernel
theorem dMo_atomic_166 : decode cMo_atomic 166 = .ok (.if_icmp .ne 14, 3) := by decide +kernel
theorem dMo_atomic_169 : decode cMo_atomic 169 = .ok (.aload_n 0, 1) := by decide +kernel
theorem dMo_atomic_170 : decode cMo_atomic 170 = .ok (.getfield 17, 3) := by decide +kernel
theorem dMo_atomic_173 : decode cMo_atomic 173 = .ok (.iconst 0, 1) := by decide +kernel
theorem dMo_atomic_174 : decode cMo_atomic 174 = .ok (.lload 4, 2) := by decide +kernel
theorem dMo_atomic_176 : decode cMo_atomic 176 = .ok (.lastore, 1) := by decide +kernel
theorem dMo_atomic_177 : decode cMo_atomic 177 = .ok (.goto 24, 3) := by decide +kernel
theorem dMo_atomic_180 : decode cMo_atomic 180 = .ok (.aload_n 0, 1) := by decide +kernel
theorem dMo_atomic_181 : decode cMo_atomic 181 = .ok (.getfield 50, 3) := by decide +kernel
theorem dMo_atomic_184 : decode cMo_atomic 184 = .ok (.iconst 2, 1) := by decide +kernel
theorem dMo_atomic_185 : decode cMo_atomic 185 = .ok (.irem, 1) := by decide +kernel
theorem dMo_atomic_186 : decode cMo_atomic 186 = .ok (.iconst 1, 1) := by decide +kernel
theorem dMo_atomic_187 : decode cMo_atomic 187 = .ok (.if_icmp .ne 14, 3) := by decide +kernel
theorem dMo_atomic_190 : decode cMo_atomic 190 = .ok (.aload_n 0, 1) := by decide +kernel
theorem dMo_atomic_191 : decode cMo_atomic 191 = .ok (.getfield 17, 3) := by decide +kernel
theorem dMo_atomic_194 : decode cMo_atomic 194 = .ok (.aload_n 0, 1) := by decide +kernel
theorem dMo_atomic_195 : decode cMo_atomic 195 = .ok (.getfield 40, 3) := by decide +kernel
theorem dMo_atomic_198 : decode cMo_atomic 198 = .ok (.lload 4, 2) := by decide +kernel
theorem dMo_atomic_200 : decode cMo_atomic 200 = .ok (.lastore, 1) := by decide +kernel
theorem dMo_atomic_201 : decode cMo_atomic 201 = .ok (.iconst 1, 1) := by decide +kernel
theorem dMo_atomic_202 : decode cMo_atomic 202 = .ok (.ireturn, 1) := by decide +kernel
theorem dMo_access_0 : decode cMo_access 0 = .ok (.aload_n 0, 1) := by decide +kernel
theorem dMo_access_1 : decode cMo_access 1 = .ok (.invokevirtual 67, 3) := by decide +kernel
theorem dMo_access_4 : decode cMo_access 4 = .ok (.istore_n 1, 1) := by decide +kernel
theorem dMo_access_5 : decode cMo_access 5 = .ok (.aload_n 0, 1) := by decide +kernel
theorem dMo_access_6 : decode cMo_access 6 = .ok (.invokevirtual 57, 3) := by decide +kernel
theorem dMo_access_9 : decode cMo_access 9 = .ok (.iconst 1, 1) := by decide +kernel
theorem dMo_access_10 : decode cMo_access 10 = .ok (.if_icmp .ne 15, 3) := by decide +kernel
theorem dMo_access_13 : decode cMo_access 13 = .ok (.aload_n 0, 1) := by decide +kernel
theorem dMo_access_14 : decode cMo_access 14 = .ok (.getfield 17, 3) := by decide +kernel
theorem dMo_access_17 : decode cMo_access 17 = .ok (.aload_n 0, 1) := by decide +kernel
theorem dMo_access_18 : decode cMo_access 18 = .ok (.getfield 40, 3) := by decide +kernel
theorem dMo_access_21 : decode cMo_access 21 = .ok (.laload, 1) := by decide +kernel
theorem dMo_access_22 : decode cMo_access 22 = .ok (.goto 12, 3) := by decide +kernel
theorem dMo_access_25 : decode cMo_access 25 = .ok (.aload_n 0, 1) := by decide +kernel
theorem dMo_access_26 : decode cMo_access 26 = .ok (.getfield 17, 3) := by decide +kernel
theorem dMo_access_29 : decode cMo_access 29 = .ok (.aload_n 0, 1) := by decide +kernel
theorem dMo_access_30 : decode cMo_access 30 = .ok (.getfield 37, 3) := by decide +kernel
theorem dMo_access_33 : decode cMo_access 33 = .ok (.laload, 1) := by decide +kernel
theorem dMo_access_34 : decode cMo_access 34 = .ok (.aload_n 0, 1) := by decide +kernel
theorem dMo_access_35 : decode cMo_access 35 = .ok (.getfield 47, 3) := by decide +kernel
theorem dMo_access_38 : decode cMo_access 38 = .ok (.i2l, 1) := by decide +kernel
theorem dMo_access_39 : decode cMo_access 39 = .ok (.ladd, 1) := by decide +kernel
theorem dMo_access_40 : decode cMo_access 40 = .ok (.lstore_n 2, 1) := by decide +kernel
theorem dMo_access_41 : decode cMo_access 41 = .ok (.aload_n 0, 1) := by decide +kernel
theorem dMo_access_42 : decode cMo_access 42 = .ok (.invokevirtual 57, 3) := by decide +kernel
theorem dMo_access_45 : decode cMo_access 45 = .ok (.iconst 3, 1) := by decide +kernel
theorem dMo_access_46 : decode cMo_access 46 = .ok (.if_icmp .ne 19, 3) := by decide +kernel
theorem dMo_access_49 : decode cMo_access 49 = .ok (.aload_n 0, 1) := by decide +kernel
theorem dMo_access_50 : decode cMo_access 50 = .ok (.invokevirtual 80, 3) := by decide +kernel
theorem dMo_access_53 : decode cMo_access 53 = .ok (.bipush 6, 2) := by decide +kernel
theorem dMo_access_55 : decode cMo_access 55 = .ok (.if_icmp .ne 10, 3) := by decide +kernel
theorem dMo_access_58 : decode cMo_access 58 = .ok (.aload_n 0, 1) := by decide +kernel
theorem dMo_access_59 : decode cMo_access 59 = .ok (.lload_n 2, 1) := by decide +kernel
theorem dMo_access_60 : decode cMo_access 60 = .ok (.iload_n 1, 1) := by decide +kernel
theorem dMo_access_61 : decode cMo_access 61 = .ok (.invokevirtual 164, 3) := by decide +kernel
theorem dMo_access_64 : decode cMo_access 64 = .ok (.ireturn, 1) := by decide +kernel
theorem dMo_access_65 : decode cMo_access 65 = .ok (.lload_n 2, 1) := by decide +kernel
theorem dMo_access_66 : decode cMo_access 66 = .ok (.iload_n 1, 1) := by decide +kernel
theorem dMo_access_67 : decode cMo_access 67 = .ok (.invokestatic 113, 3) := by decide +kernel
theorem dMo_access_70 : decode cMo_access 70 = .ok (.ifCond .ne 5, 3) := by decide +kernel
theorem dMo_access_73 : decode cMo_access 73 = .ok (.iconst 0, 1) := by decide +kernel
theorem dMo_access_74 : decode cMo_access 74 = .ok (.ireturn, 1) := by decide +kernel
theorem dMo_access_75 : decode cMo_access 75 = .ok (.aload_n 0, 1) := by decide +kernel
theorem dMo_access_76 : decode cMo_access 76 = .ok (.invokevirtual 57, 3) := by decide +kernel
theorem dMo_access_79 : decode cMo_access 79 = .ok (.iconst 1, 1) := by decide +kernel
theorem dMo_access_80 : decode cMo_access 80 = .ok (.if_icmp .ne 45, 3) := by decide +kernel
theorem dMo_access_83 : decode cMo_access 83 = .ok (.aload_n 0, 1) := by decide +kernel
theorem dMo_access_84 : decode cMo_access 84 = .ok (.getfield 17, 3) := by decide +kernel
theorem dMo_access_87 : decode cMo_access 87 = .ok (.aload_n 0, 1) := by decide +kernel
theorem dMo_access_88 : decode cMo_access 88 = .ok (.getfield 37, 3) := by decide +kernel
theorem dMo_access_91 : decode cMo_access 91 = .ok (.aload_n 0, 1) := by decide +kernel
theorem dMo_access_92 : decode cMo_access 92 = .ok (.invokevirtual 80, 3) := by decide +kernel
theorem dMo_access_95 : decode cMo_access 95 = .ok (.iconst 4, 1) := by decide +kernel
theorem dMo_access_96 : decode cMo_access 96 = .ok (.if_icmp .ne 19, 3) := by decide +kernel
theorem dMo_access_99 : decode cMo_access 99 = .ok (.aload_n 0, 1) := by decide +kernel
theorem dMo_access_100 : decode cMo_access 100 = .ok (.lload_n 2, 1) := by decide +kernel
theorem dMo_access_101 : decode cMo_access 101 = .ok (.iload_n 1, 1) := by decide +kernel
theorem dMo_access_102 : decode cMo_access 102 = .ok (.invokevirtual 120, 3) := by decide +kernel
theorem dMo_access_105 : decode cMo_access 105 = .ok (.bipush 8, 2) := by decide +kernel
theorem dMo_access_107 : decode cMo_access 107 = .ok (.iload_n 1, 1) := by decide +kernel
theorem dMo_access_108 : decode cMo_access 108 = .ok (.imul, 1) := by decide +kernel
theorem dMo_access_109 : decode cMo_access 109 = .ok (.invokestatic 143, 3) := by decide +kernel
theorem dMo_access_112 : decode cMo_access 112 = .ok (.goto 9, 3) := by decide +kernel
theorem dMo_access_115 : decode cMo_access 115 = .ok (.aload_n 0, 1) := by decide +kernel
theorem dMo_access_116 : decode cMo_access 116 = .ok (.lload_n 2, 1) := by decide +kernel
theorem dMo_access_117 : decode cMo_access 117 = .ok (.iload_n 1, 1) := by decide +kernel
theorem dMo_access_118 : decode cMo_access 118 = .ok (.invokevirtual 120, 3) := by decide +kernel
theorem dMo_access_121 : decode cMo_access 121 = .ok (.lastore, 1) := by decide +kernel
theorem dMo_access_122 : decode cMo_access 122 = .ok (.goto 34, 3) := by decide +kernel
theorem dMo_access_125 : decode cMo_access 125 = .ok (.aload_n 0, 1) := by decide +kernel
theorem dMo_access_126 : decode cMo_access 126 = .ok (.lload_n 2, 1) := by decide +kernel
theorem dMo_access_127 : decode cMo_access 127 = .ok (.iload_n 1, 1) := by decide +kernel
theorem dMo_access_128 : decode cMo_access 128 = .ok (.aload_n 0, 1) := by decide +kernel
theorem dMo_access_129 : decode cMo_access 129 = .ok (.invokevirtual 57, 3) := by decide +kernel
theorem dMo_access_132 : decode cMo_access 132 = .ok (.iconst 2, 1) := by decide +kernel
theorem dMo_access_133 : decode cMo_access 133 = .ok (.if_icmp .ne 11, 3) := by decide +kernel
theorem dMo_access_136 : decode cMo_access 136 = .ok (.aload_n 0, 1) := by decide +kernel
theorem dMo_access_137 : decode cMo_access 137 = .ok (.getfield 50, 3) := by decide +kernel
theorem dMo_access_140 : decode cMo_access 140 = .ok (.i2l, 1) := by decide +kernel
theorem dMo_access_141 : decode cMo_access 141 = .ok (.goto 12, 3) := by decide +kernel
theorem dMo_access_144 : decode cMo_access 144 = .ok (.aload_n 0, 1) := by decide +kernel
theorem dMo_access_145 : decode cMo_access 145 = .ok (.getfield 17, 3) := by decide +kernel
theorem dMo_access_148 : decode cMo_access 148 = .ok (.aload_n 0, 1) := by decide +kernel
theorem dMo_access_149 : decode cMo_access 149 = .ok (.getfield 40, 3) := by decide +kernel
theorem dMo_access_152 : decode cMo_access 152 = .ok (.laload, 1) := by decide +kernel
theorem dMo_access_153 : decode cMo_access 153 = .ok (.invokevirtual 116, 3) := by decide +kernel
theorem dMo_access_156 : decode cMo_access 156 = .ok (.iconst 1, 1) := by decide +kernel
theorem dMo_access_157 : decode cMo_access 157 = .ok (.ireturn, 1) := by decide +kernel
