theorem dMo_isGoal_0 : decode cMo_isGoal 0 = .ok (.iconst 0, 1) := by decide +kernel
theorem dMo_isGoal_1 : decode cMo_isGoal 1 = .ok (.istore 4, 2) := by decide +kernel
theorem dMo_isGoal_3 : decode cMo_isGoal 3 = .ok (.iload 4, 2) := by decide +kernel
theorem dMo_isGoal_5 : decode cMo_isGoal 5 = .ok (.iload_n 3, 1) := by decide +kernel
theorem dMo_isGoal_6 : decode cMo_isGoal 6 = .ok (.if_icmp .ge 42, 3) := by decide +kernel
theorem dMo_isGoal_9 : decode cMo_isGoal 9 = .ok (.iload 4, 2) := by decide +kernel
theorem dMo_isGoal_11 : decode cMo_isGoal 11 = .ok (.i2l, 1) := by decide +kernel
theorem dMo_isGoal_12 : decode cMo_isGoal 12 = .ok (.lload_n 1, 1) := by decide +kernel
theorem dMo_isGoal_13 : decode cMo_isGoal 13 = .ok (.lcmp, 1) := by decide +kernel
theorem dMo_isGoal_14 : decode cMo_isGoal 14 = .ok (.ifCond .ge 34, 3) := by decide +kernel
theorem dMo_isGoal_17 : decode cMo_isGoal 17 = .ok (.aload_n 0, 1) := by decide +kernel
theorem dMo_isGoal_18 : decode cMo_isGoal 18 = .ok (.getfield 8, 3) := by decide +kernel
theorem dMo_isGoal_21 : decode cMo_isGoal 21 = .ok (.bipush 8, 2) := by decide +kernel
theorem dMo_isGoal_23 : decode cMo_isGoal 23 = .ok (.iload 4, 2) := by decide +kernel
theorem dMo_isGoal_25 : decode cMo_isGoal 25 = .ok (.imul, 1) := by decide +kernel
theorem dMo_isGoal_26 : decode cMo_isGoal 26 = .ok (.iaload, 1) := by decide +kernel
theorem dMo_isGoal_27 : decode cMo_isGoal 27 = .ok (.bipush 24, 2) := by decide +kernel
theorem dMo_isGoal_29 : decode cMo_isGoal 29 = .ok (.if_icmp .ne 10, 3) := by decide +kernel
theorem dMo_isGoal_32 : decode cMo_isGoal 32 = .ok (.iload 4, 2) := by decide +kernel
theorem dMo_isGoal_34 : decode cMo_isGoal 34 = .ok (.iconst 2, 1) := by decide +kernel
theorem dMo_isGoal_35 : decode cMo_isGoal 35 = .ok (.iadd, 1) := by decide +kernel
theorem dMo_isGoal_36 : decode cMo_isGoal 36 = .ok (.goto 7, 3) := by decide +kernel
theorem dMo_isGoal_39 : decode cMo_isGoal 39 = .ok (.iload 4, 2) := by decide +kernel
theorem dMo_isGoal_41 : decode cMo_isGoal 41 = .ok (.iconst 1, 1) := by decide +kernel
theorem dMo_isGoal_42 : decode cMo_isGoal 42 = .ok (.iadd, 1) := by decide +kernel
theorem dMo_isGoal_43 : decode cMo_isGoal 43 = .ok (.istore 4, 2) := by decide +kernel
theorem dMo_isGoal_45 : decode cMo_isGoal 45 = .ok (.goto (-42), 3) := by decide +kernel
theorem dMo_isGoal_48 : decode cMo_isGoal 48 = .ok (.lload_n 1, 1) := by decide +kernel
theorem dMo_isGoal_49 : decode cMo_isGoal 49 = .ok (.lconst 0, 1) := by decide +kernel
theorem dMo_isGoal_50 : decode cMo_isGoal 50 = .ok (.lcmp, 1) := by decide +kernel
theorem dMo_isGoal_51 : decode cMo_isGoal 51 = .ok (.ifCond .lt 22, 3) := by decide +kernel
theorem dMo_isGoal_54 : decode cMo_isGoal 54 = .ok (.lload_n 1, 1) := by decide +kernel
theorem dMo_isGoal_55 : decode cMo_isGoal 55 = .ok (.iload_n 3, 1) := by decide +kernel
theorem dMo_isGoal_56 : decode cMo_isGoal 56 = .ok (.i2l, 1) := by decide +kernel
theorem dMo_isGoal_57 : decode cMo_isGoal 57 = .ok (.lcmp, 1) := by decide +kernel
theorem dMo_isGoal_58 : decode cMo_isGoal 58 = .ok (.ifCond .ge 15, 3) := by decide +kernel
theorem dMo_isGoal_61 : decode cMo_isGoal 61 = .ok (.iload 4, 2) := by decide +kernel
theorem dMo_isGoal_63 : decode cMo_isGoal 63 = .ok (.i2l, 1) := by decide +kernel
theorem dMo_isGoal_64 : decode cMo_isGoal 64 = .ok (.lload_n 1, 1) := by decide +kernel
theorem dMo_isGoal_65 : decode cMo_isGoal 65 = .ok (.lcmp, 1) := by decide +kernel
theorem dMo_isGoal_66 : decode cMo_isGoal 66 = .ok (.ifCond .ne 7, 3) := by decide +kernel
theorem dMo_isGoal_69 : decode cMo_isGoal 69 = .ok (.iconst 1, 1) := by decide +kernel
theorem dMo_isGoal_70 : decode cMo_isGoal 70 = .ok (.goto 4, 3) := by decide +kernel
theorem dMo_isGoal_73 : decode cMo_isGoal 73 = .ok (.iconst 0, 1) := by decide +kernel
theorem dMo_isGoal_74 : decode cMo_isGoal 74 = .ok (.ireturn, 1) := by decide +kernel
theorem dMo_wrongWay_0 : decode cMo_wrongWay 0 = .ok (.iconst 0, 1) := by decide +kernel
theorem dMo_wrongWay_1 : decode cMo_wrongWay 1 = .ok (.istore_n 2, 1) := by decide +kernel
theorem dMo_wrongWay_2 : decode cMo_wrongWay 2 = .ok (.iload_n 2, 1) := by decide +kernel
theorem dMo_wrongWay_3 : decode cMo_wrongWay 3 = .ok (.iload_n 1, 1) := by decide +kernel
theorem dMo_wrongWay_4 : decode cMo_wrongWay 4 = .ok (.if_icmp .ge 171, 3) := by decide +kernel
theorem dMo_wrongWay_7 : decode cMo_wrongWay 7 = .ok (.aload_n 0, 1) := by decide +kernel
theorem dMo_wrongWay_8 : decode cMo_wrongWay 8 = .ok (.aload_n 0, 1) := by decide +kernel
theorem dMo_wrongWay_9 : decode cMo_wrongWay 9 = .ok (.getfield 8, 3) := by decide +kernel
theorem dMo_wrongWay_12 : decode cMo_wrongWay 12 = .ok (.iload_n 2, 1) := by decide +kernel
theorem dMo_wrongWay_13 : decode cMo_wrongWay 13 = .ok (.invokevirtual 70, 3) := by decide +kernel
theorem dMo_wrongWay_16 : decode cMo_wrongWay 16 = .ok (.aload_n 0, 1) := by decide +kernel
theorem dMo_wrongWay_17 : decode cMo_wrongWay 17 = .ok (.invokevirtual 86, 3) := by decide +kernel
theorem dMo_wrongWay_20 : decode cMo_wrongWay 20 = .ok (.ifCond .eq 9, 3) := by decide +kernel
theorem dMo_wrongWay_23 : decode cMo_wrongWay 23 = .ok (.iload_n 2, 1) := by decide +kernel
theorem dMo_wrongWay_24 : decode cMo_wrongWay 24 = .ok (.iconst 2, 1) := by decide +kernel
theorem dMo_wrongWay_25 : decode cMo_wrongWay 25 = .ok (.iadd, 1) := by decide +kernel
theorem dMo_wrongWay_26 : decode cMo_wrongWay 26 = .ok (.goto 6, 3) := by decide +kernel
theorem dMo_wrongWay_29 : decode cMo_wrongWay 29 = .ok (.iload_n 2, 1) := by decide +kernel
theorem dMo_wrongWay_30 : decode cMo_wrongWay 30 = .ok (.iconst 1, 1) := by decide +kernel
theorem dMo_wrongWay_31 : decode cMo_wrongWay 31 = .ok (.iadd, 1) := by decide +kernel
theorem dMo_wrongWay_32 : decode cMo_wrongWay 32 = .ok (.istore_n 3, 1) := by decide +kernel
theorem dMo_wrongWay_33 : decode cMo_wrongWay 33 = .ok (.aload_n 0, 1) := by decide +kernel
theorem dMo_wrongWay_34 : decode cMo_wrongWay 34 = .ok (.invokevirtual 57, 3) := by decide +kernel
theorem dMo_wrongWay_37 : decode cMo_wrongWay 37 = .ok (.iconst 5, 1) := by decide +kernel
theorem dMo_wrongWay_38 : decode cMo_wrongWay 38 = .ok (.if_icmp .eq 12, 3) := by decide +kernel
theorem dMo_wrongWay_41 : decode cMo_wrongWay 41 = .ok (.aload_n 0, 1) := by decide +kernel
theorem dMo_wrongWay_42 : decode cMo_wrongWay 42 = .ok (.invokevirtual 57, 3) := by decide +kernel
theorem dMo_wrongWay_45 : decode cMo_wrongWay 45 = .ok (.bipush 6, 2) := by decide +kernel
theorem dMo_wrongWay_47 : decode cMo_wrongWay 47 = .ok (.if_icmp .ne 25, 3) := by decide +kernel
theorem dMo_wrongWay_50 : decode cMo_wrongWay 50 = .ok (.aload_n 0, 1) := by decide +kernel
theorem dMo_wrongWay_51 : decode cMo_wrongWay 51 = .ok (.invokevirtual 61, 3) := by decide +kernel
theorem dMo_wrongWay_54 : decode cMo_wrongWay 54 = .ok (.bipush 8, 2) := by decide +kernel
theorem dMo_wrongWay_56 : decode cMo_wrongWay 56 = .ok (.if_icmp .eq 16, 3) := by decide +kernel
theorem dMo_wrongWay_59 : decode cMo_wrongWay 59 = .ok (.aload_n 0, 1) := by decide +kernel
theorem dMo_wrongWay_60 : decode cMo_wrongWay 60 = .ok (.invokevirtual 61, 3) := by decide +kernel
theorem dMo_wrongWay_63 : decode cMo_wrongWay 63 = .ok (.bipush 9, 2) := by decide +kernel
theorem dMo_wrongWay_65 : decode cMo_wrongWay 65 = .ok (.if_icmp .eq 7, 3) := by decide +kernel
theorem dMo_wrongWay_68 : decode cMo_wrongWay 68 = .ok (.iconst 1, 1) := by decide +kernel
theorem dMo_wrongWay_69 : decode cMo_wrongWay 69 = .ok (.goto 4, 3) := by decide +kernel
theorem dMo_wrongWay_72 : decode cMo_wrongWay 72 = .ok (.iconst 0, 1) := by decide +kernel
theorem dMo_wrongWay_73 : decode cMo_wrongWay 73 = .ok (.istore 4, 2) := by decide +kernel
theorem dMo_wrongWay_75 : decode cMo_wrongWay 75 = .ok (.aload_n 0, 1) := by decide +kernel
theorem dMo_wrongWay_76 : decode cMo_wrongWay 76 = .ok (.getfield 34, 3) := by decide +kernel
theorem dMo_wrongWay_79 : decode cMo_wrongWay 79 = .ok (.iconst 5, 1) := by decide +kernel
theorem dMo_wrongWay_80 : decode cMo_wrongWay 80 = .ok (.if_icmp .eq 12, 3) := by decide +kernel
theorem dMo_wrongWay_83 : decode cMo_wrongWay 83 = .ok (.aload_n 0, 1) := by decide +kernel
theorem dMo_wrongWay_84 : decode cMo_wrongWay 84 = .ok (.getfield 34, 3) := by decide +kernel
theorem dMo_wrongWay_87 : decode cMo_wrongWay 87 = .ok (.bipush 6, 2) := by decide +kernel
theorem dMo_wrongWay_89 : decode cMo_wrongWay 89 = .ok (.if_icmp .ne 7, 3) := by decide +kernel
theorem dMo_wrongWay_92 : decode cMo_wrongWay 92 = .ok (.iconst 1, 1) := by decide +kernel
theorem dMo_wrongWay_93 : decode cMo_wrongWay 93 = .ok (.goto 4, 3) := by decide +kernel
theorem dMo_wrongWay_96 : decode cMo_wrongWay 96 = .ok (.iconst 0, 1) := by decide +kernel
theorem dMo_wrongWay_97 : decode cMo_wrongWay 97 = .ok (.istore 5, 2) := by decide +kernel
theorem dMo_wrongWay_99 : decode cMo_wrongWay 99 = .ok (.aload_n 0, 1) := by decide +kernel
theorem dMo_wrongWay_100 : decode cMo_wrongWay 100 = .ok (.getfield 34, 3) := by decide +kernel
theorem dMo_wrongWay_103 : decode cMo_wrongWay 103 = .ok (.bipush 6, 2) := by decide +kernel
theorem dMo_wrongWay_105 : decode cMo_wrongWay 105 = .ok (.if_icmp .ne 16, 3) := by decide +kernel
theorem dMo_wrongWay_108 : decode cMo_wrongWay 108 = .ok (.iload_n 2, 1) := by decide +kernel
theorem dMo_wrongWay_109 : decode cMo_wrongWay 109 = .ok (.i2l, 1) := by decide +kernel
theorem dMo_wrongWay_110 : decode cMo_wrongWay 110 = .ok (.lconst 1, 1) := by decide +kernel
theorem dMo_wrongWay_111 : decode cMo_wrongWay 111 = .ok (.ladd, 1) := by decide +kernel
theorem dMo_wrongWay_112 : decode cMo_wrongWay 112 = .ok (.aload_n 0, 1) := by decide +kernel
theorem dMo_wrongWay_113 : decode cMo_wrongWay 113 = .ok (.getfield 50, 3) := by decide +kernel
theorem dMo_wrongWay_116 : decode cMo_wrongWay 116 = .ok (.i2l, 1) := by decide +kernel
theorem dMo_wrongWay_117 : decode cMo_wrongWay 117 = .ok (.ladd, 1) := by decide +kernel
theorem dMo_wrongWay_118 : decode cMo_wrongWay 118 = .ok (.goto 13, 3) := by decide +kernel
theorem dMo_wrongWay_121 : decode cMo_wrongWay 121 = .ok (.iload_n 2, 1) := by decide +kernel
theorem dMo_wrongWay_122 : decode cMo_wrongWay 122 = .ok (.i2l, 1) := by decide +kernel
theorem dMo_wrongWay_123 : decode cMo_wrongWay 123 = .ok (.lconst 1, 1) := by decide +kernel
theorem dMo_wrongWay_124 : decode cMo_wrongWay 124 = .ok (.ladd, 1) := by decide +kernel
theorem dMo_wrongWay_125 : decode cMo_wrongWay 125 = .ok (.aload_n 0, 1) := by decide +kernel
theorem dMo_wrongWay_126 : decode cMo_wrongWay 126 = .ok (.getfield 47, 3) := by decide +kernel
theorem dMo_wrongWay_129 : decode cMo_wrongWay 129 = .ok (.i2l, 1) := by decide +kernel
theorem dMo_wrongWay_130 : decode cMo_wrongWay 130 = .ok (.ladd, 1) := by decide +kernel
theorem dMo_wrongWay_131 : decode cMo_wrongWay 131 = .ok (.lstore 6, 2) := by decide +kernel
theorem dMo_wrongWay_133 : decode cMo_wrongWay 133 = .ok (.iload 4, 2) := by decide +kernel
theorem dMo_wrongWay_135 : decode cMo_wrongWay 135 = .ok (.ifCond .eq 13, 3) := by decide +kernel
theorem dMo_wrongWay_138 : decode cMo_wrongWay 138 = .ok (.aload_n 0, 1) := by decide +kernel
theorem dMo_wrongWay_139 : decode cMo_wrongWay 139 = .ok (.lload 6, 2) := by decide +kernel
theorem dMo_wrongWay_141 : decode cMo_wrongWay 141 = .ok (.iload_n 1, 1) := by decide +kernel
theorem dMo_wrongWay_142 : decode cMo_wrongWay 142 = .ok (.invokevirtual 93, 3) := by decide +kernel
theorem dMo_wrongWay_145 : decode cMo_wrongWay 145 = .ok (.ifCond .eq 23, 3) := by decide +kernel
theorem dMo_wrongWay_148 : decode cMo_wrongWay 148 = .ok (.iload 5, 2) := by decide +kernel
theorem dMo_wrongWay_150 : decode cMo_wrongWay 150 = .ok (.ifCond .ne 20, 3) := by decide +kernel
theorem dMo_wrongWay_153 : decode cMo_wrongWay 153 = .ok (.aload_n 0, 1) := by decide +kernel
theorem dMo_wrongWay_154 : decode cMo_wrongWay 154 = .ok (.getfield 34, 3) := by decide +kernel
theorem dMo_wrongWay_157 : decode cMo_wrongWay 157 = .ok (.sipush 149, 3) := by decide +kernel
theorem dMo_wrongWay_160 : decode cMo_wrongWay 160 = .ok (.if_icmp .eq 10, 3) := by decide +kernel
theorem dMo_wrongWay_163 : decode cMo_wrongWay 163 = .ok (.iload_n 3, 1) := by decide +kernel
theorem dMo_wrongWay_164 : decode cMo_wrongWay 164 = .ok (.iload_n 1, 1) := by decide +kernel
theorem dMo_wrongWay_165 : decode cMo_wrongWay 165 = .ok (.if_icmp .lt 5, 3) := by decide +kernel
theorem dMo_wrongWay_168 : decode cMo_wrongWay 168 = .ok (.iload_n 2, 1) := by decide +kernel
theorem dMo_wrongWay_169 : decode cMo_wrongWay 169 = .ok (.ireturn, 1) := by decide +kernel
theorem dMo_wrongWay_170 : decode cMo_wrongWay 170 = .ok (.iload_n 3, 1) := by decide +kernel
theorem dMo_wrongWay_171 : decode cMo_wrongWay 171 = .ok (.istore_n 2, 1) := by decide +kernel
theorem dMo_wrongWay_172 : decode cMo_wrongWay 172 = .ok (.goto (-170), 3) := by decide +kernel
theorem dMo_wrongWay_175 : decode cMo_wrongWay 175 = .ok (.iconst (-1), 1) := by decide +kernel
theorem dMo_wrongWay_176 : decode cMo_wrongWay 176 = .ok (.ireturn, 1) := by decide +kernel
theorem dMo_load_0 : decode cMo_load 0 = .ok (.aload_n 0, 1) := by decide +kernel
theorem dMo_load_1 : decode cMo_load 1 = .ok (.iconst 0, 1) := by decide +kernel
theorem dMo_load_2 : decode cMo_load 2 = .ok (.putfield 28, 3) := by decide +kernel
theorem dMo_load_5 : decode cMo_load 5 = .ok (.aload_n 0, 1) := by decide +kernel
theorem dMo_load_6 : decode cMo_load 6 = .ok (.getfield 31, 3) := by decide +kernel
theorem dMo_load_9 : decode cMo_load 9 = .ok (.bipush 8, 2) := by decide +kernel
theorem dMo_load_11 : decode cMo_load 11 = .ok (.idiv, 1) := by decide +kernel
theorem dMo_load_12 : decode cMo_load 12 = .ok (.istore_n 1, 1) := by decide +kernel
theorem dMo_load_13 : decode cMo_load 13 = .ok (.aload_n 0, 1) := by decide +kernel
theorem dMo_load_14 : decode cMo_load 14 = .ok (.iload_n 1, 1) := by decide +kernel
theorem dMo_load_15 : decode cMo_load 15 = .ok (.invokevirtual 97, 3) := by decide +kernel
theorem dMo_load_18 : decode cMo_load 18 = .ok (.istore_n 2, 1) := by decide +kernel
theorem dMo_load_19 : decode cMo_load 19 = .ok (.iload_n 2, 1) := by decide +kernel
theorem dMo_load_20 : decode cMo_load 20 = .ok (.iconst (-1), 1) := by decide +kernel
theorem dMo_load_21 : decode cMo_load 21 = .ok (.if_icmp .ne 11, 3) := by decide +kernel
theorem dMo_load_24 : decode cMo_load 24 = .ok (.aload_n 0, 1) := by decide +kernel
theorem dMo_load_25 : decode cMo_load 25 = .ok (.iload_n 1, 1) := by decide +kernel
theorem dMo_load_26 : decode cMo_load 26 = .ok (.invokevirtual 101, 3) := by decide +kernel
theorem dMo_load_29 : decode cMo_load 29 = .ok (.goto 4, 3) := by decide +kernel
theorem dMo_load_32 : decode cMo_load 32 = .ok (.iload_n 2, 1) := by decide +kernel
theorem dMo_load_33 : decode cMo_load 33 = .ok (.istore_n 2, 1) := by decide +kernel
theorem dMo_load_34 : decode cMo_load 34 = .ok (.aload_n 0, 1) := by decide +kernel
theorem dMo_load_35 : decode cMo_load 35 = .ok (.iload_n 2, 1) := by decide +kernel
theorem dMo_load_36 : decode cMo_load 36 = .ok (.iconst (-1), 1) := by decide +kernel
theorem dMo_load_37 : decode cMo_load 37 = .ok (.if_icmp .ne 7, 3) := by decide +kernel
theorem dMo_load_40 : decode cMo_load 40 = .ok (.iload_n 1, 1) := by decide +kernel
theorem dMo_load_41 : decode cMo_load 41 = .ok (.goto 4, 3) := by decide +kernel
theorem dMo_load_44 : decode cMo_load 44 = .ok (.iconst 0, 1) := by decide +kernel
theorem dMo_load_45 : decode cMo_load 45 = .ok (.putfield 104, 3) := by decide +kernel
theorem dMo_load_48 : decode cMo_load 48 = .ok (.iconst 0, 1) := by decide +kernel
theorem dMo_load_49 : decode cMo_load 49 = .ok (.istore_n 3, 1) := by decide +kernel
theorem dMo_load_50 : decode cMo_load 50 = .ok (.iload_n 3, 1) := by decide +kernel
theorem dMo_load_51 : decode cMo_load 51 = .ok (.bipush 8, 2) := by decide +kernel
theorem dMo_load_53 : decode cMo_load 53 = .ok (.aload_n 0, 1) := by decide +kernel
theorem dMo_load_54 : decode cMo_load 54 = .ok (.getfield 104, 3) := by decide +kernel
theorem dMo_load_57 : decode cMo_load 57 = .ok (.imul, 1) := by decide +kernel
theorem dMo_load_58 : decode cMo_load 58 = .ok (.if_icmp .ge 21, 3) := by decide +kernel
theorem dMo_load_61 : decode cMo_load 61 = .ok (.aload_n 0, 1) := by decide +kernel
theorem dMo_load_62 : decode cMo_load 62 = .ok (.getfield 14, 3) := by decide +kernel
theorem dMo_load_65 : decode cMo_load 65 = .ok (.iload_n 3, 1) := by decide +kernel
theorem dMo_load_66 : decode cMo_load 66 = .ok (.aload_n 0, 1) := by decide +kernel
theorem dMo_load_67 : decode cMo_load 67 = .ok (.getfield 8, 3) := by decide +kernel
theorem dMo_load_70 : decode cMo_load 70 = .ok (.iload_n 3, 1) := by decide +kernel
theorem dMo_load_71 : decode cMo_load 71 = .ok (.iaload, 1) := by decide +kernel
theorem dMo_load_72 : decode cMo_load 72 = .ok (.iastore, 1) := by decide +kernel
theorem dMo_load_73 : decode cMo_load 73 = .ok (.iinc 3 1, 3) := by decide +kernel
theorem dMo_load_76 : decode cMo_load 76 = .ok (.goto (-26), 3) := by decide +kernel
theorem dMo_load_79 : decode cMo_load 79 = .ok (.aload_n 0, 1) := by decide +kernel
theorem dMo_load_80 : decode cMo_load 80 = .ok (.iconst 0, 1) := by decide +kernel
theorem dMo_load_81 : decode cMo_load 81 = .ok (.putfield 31, 3) := by decide +kernel
theorem dMo_load_84 : decode cMo_load 84 = .ok (.iload_n 2, 1) := by decide +kernel
theorem dMo_load_85 : decode cMo_load 85 = .ok (.ireturn, 1) := by decide +kernel
theorem dMo_places_0 : decode cMo_places 0 = .ok (.aload_n 0, 1) := by decide +kernel
theorem dMo_places_1 : decode cMo_places 1 = .ok (.iconst 0, 1) := by decide +kernel
theorem dMo_places_2 : decode cMo_places 2 = .ok (.putfield 28, 3) := by decide +kernel
theorem dMo_places_5 : decode cMo_places 5 = .ok (.aload_n 0, 1) := by decide +kernel
theorem dMo_places_6 : decode cMo_places 6 = .ok (.getfield 104, 3) := by decide +kernel
theorem dMo_places_9 : decode cMo_places 9 = .ok (.ireturn, 1) := by decide +kernel
theorem dMo_set_0 : decode cMo_set 0 = .ok (.aload_n 0, 1) := by decide +kernel
theorem dMo_set_1 : decode cMo_set 1 = .ok (.iload_n 1, 1) := by decide +kernel
theorem dMo_set_2 : decode cMo_set 2 = .ok (.ifCond .lt 9, 3) := by decide +kernel
theorem dMo_set_5 : decode cMo_set 5 = .ok (.iload_n 1, 1) := by decide +kernel
theorem dMo_set_6 : decode cMo_set 6 = .ok (.bipush 10, 2) := by decide +kernel
theorem dMo_set_8 : decode cMo_set 8 = .ok (.if_icmp .le 7, 3) := by decide +kernel
theorem dMo_set_11 : decode cMo_set 11 = .ok (.iconst 1, 1) := by decide +kernel
theorem dMo_set_12 : decode cMo_set 12 = .ok (.goto 4, 3) := by decide +kernel
theorem dMo_set_15 : decode cMo_set 15 = .ok (.iconst 0, 1) := by decide +kernel
theorem dMo_set_16 : decode cMo_set 16 = .ok (.putfield 28, 3) := by decide +kernel
theorem dMo_set_19 : decode cMo_set 19 = .ok (.aload_n 0, 1) := by decide +kernel
theorem dMo_set_20 : decode cMo_set 20 = .ok (.getfield 28, 3) := by decide +kernel
theorem dMo_set_23 : decode cMo_set 23 = .ok (.ifCond .ne 10, 3) := by decide +kernel
theorem dMo_set_26 : decode cMo_set 26 = .ok (.aload_n 0, 1) := by decide +kernel
theorem dMo_set_27 : decode cMo_set 27 = .ok (.getfield 17, 3) := by decide +kernel
theorem dMo_set_30 : decode cMo_set 30 = .ok (.iload_n 1, 1) := by decide +kernel
theorem dMo_set_31 : decode cMo_set 31 = .ok (.lload_n 2, 1) := by decide +kernel
theorem dMo_set_32 : decode cMo_set 32 = .ok (.lastore, 1) := by decide +kernel
theorem dMo_set_33 : decode cMo_set 33 = .ok (.return_, 1) := by decide +kernel
theorem dMo_get_0 : decode cMo_get 0 = .ok (.aload_n 0, 1) := by decide +kernel
theorem dMo_get_1 : decode cMo_get 1 = .ok (.iload_n 1, 1) := by decide +kernel
theorem dMo_get_2 : decode cMo_get 2 = .ok (.ifCond .lt 9, 3) := by decide +kernel
theorem dMo_get_5 : decode cMo_get 5 = .ok (.iload_n 1, 1) := by decide +kernel
theorem dMo_get_6 : decode cMo_get 6 = .ok (.bipush 10, 2) := by decide +kernel
theorem dMo_get_8 : decode cMo_get 8 = .ok (.if_icmp .le 7, 3) := by decide +kernel
theorem dMo_get_11 : decode cMo_get 11 = .ok (.iconst 1, 1) := by decide +kernel
theorem dMo_get_12 : decode cMo_get 12 = .ok (.goto 4, 3) := by decide +kernel
theorem dMo_get_15 : decode cMo_get 15 = .ok (.iconst 0, 1) := by decide +kernel
theorem dMo_get_16 : decode cMo_get 16 = .ok (.putfield 28, 3) := by decide +kernel
theorem dMo_get_19 : decode cMo_get 19 = .ok (.aload_n 0, 1) := by decide +kernel
theorem dMo_get_20 : decode cMo_get 20 = .ok (.getfield 28, 3) := by decide +kernel
theorem dMo_get_23 : decode cMo_get 23 = .ok (.ifCond .le 7, 3) := by decide +kernel
theorem dMo_get_26 : decode cMo_get 26 = .ok (.lconst 0, 1) := by decide +kernel
theorem dMo_get_27 : decode cMo_get 27 = .ok (.goto 9, 3) := by decide +kernel
theorem dMo_get_30 : decode cMo_get 30 = .ok (.aload_n 0, 1) := by decide +kernel
theorem dMo_get_31 : decode cMo_get 31 = .ok (.getfield 17, 3) := by decide +kernel
theorem dMo_get_34 : decode cMo_get 34 = .ok (.iload_n 1, 1) := by decide +kernel
theorem dMo_get_35 : decode cMo_get 35 = .ok (.laload, 1) := by decide +kernel
theorem dMo_get_36 : decode cMo_get 36 = .ok (.lreturn, 1) := by decide +kernel
