theorem dMo_does_0 : decode cMo_does 0 = .ok (.aload_n 0, 1) := by decide +kernel
theorem dMo_does_1 : decode cMo_does 1 = .ok (.aload_n 0, 1) := by decide +kernel
theorem dMo_does_2 : decode cMo_does 2 = .ok (.invokevirtual 86, 3) := by decide +kernel
theorem dMo_does_5 : decode cMo_does 5 = .ok (.ifCond .eq 9, 3) := by decide +kernel
theorem dMo_does_8 : decode cMo_does 8 = .ok (.iload_n 1, 1) := by decide +kernel
theorem dMo_does_9 : decode cMo_does 9 = .ok (.iconst 2, 1) := by decide +kernel
theorem dMo_does_10 : decode cMo_does 10 = .ok (.iadd, 1) := by decide +kernel
theorem dMo_does_11 : decode cMo_does 11 = .ok (.goto 6, 3) := by decide +kernel
theorem dMo_does_14 : decode cMo_does 14 = .ok (.iload_n 1, 1) := by decide +kernel
theorem dMo_does_15 : decode cMo_does 15 = .ok (.iconst 1, 1) := by decide +kernel
theorem dMo_does_16 : decode cMo_does 16 = .ok (.iadd, 1) := by decide +kernel
theorem dMo_does_17 : decode cMo_does 17 = .ok (.putfield 158, 3) := by decide +kernel
theorem dMo_does_20 : decode cMo_does 20 = .ok (.aload_n 0, 1) := by decide +kernel
theorem dMo_does_21 : decode cMo_does 21 = .ok (.invokevirtual 57, 3) := by decide +kernel
theorem dMo_does_24 : decode cMo_does 24 = .ok (.tableswitch 103 0 7 #[61, 103, 103, 103, 48, 54, 54, 48], 48) := by decide +kernel
theorem dMo_does_72 : decode cMo_does 72 = .ok (.aload_n 0, 1) := by decide +kernel
theorem dMo_does_73 : decode cMo_does 73 = .ok (.invokevirtual 167, 3) := by decide +kernel
theorem dMo_does_76 : decode cMo_does 76 = .ok (.iconst 1, 1) := by decide +kernel
theorem dMo_does_77 : decode cMo_does 77 = .ok (.ireturn, 1) := by decide +kernel
theorem dMo_does_78 : decode cMo_does 78 = .ok (.aload_n 0, 1) := by decide +kernel
theorem dMo_does_79 : decode cMo_does 79 = .ok (.iload_n 1, 1) := by decide +kernel
theorem dMo_does_80 : decode cMo_does 80 = .ok (.invokevirtual 170, 3) := by decide +kernel
theorem dMo_does_83 : decode cMo_does 83 = .ok (.iconst 1, 1) := by decide +kernel
theorem dMo_does_84 : decode cMo_does 84 = .ok (.ireturn, 1) := by decide +kernel
theorem dMo_does_85 : decode cMo_does 85 = .ok (.aload_n 0, 1) := by decide +kernel
theorem dMo_does_86 : decode cMo_does 86 = .ok (.getfield 14, 3) := by decide +kernel
theorem dMo_does_89 : decode cMo_does 89 = .ok (.bipush 8, 2) := by decide +kernel
theorem dMo_does_91 : decode cMo_does 91 = .ok (.iload_n 1, 1) := by decide +kernel
theorem dMo_does_92 : decode cMo_does 92 = .ok (.imul, 1) := by decide +kernel
theorem dMo_does_93 : decode cMo_does 93 = .ok (.bipush 12, 2) := by decide +kernel
theorem dMo_does_95 : decode cMo_does 95 = .ok (.iadd, 1) := by decide +kernel
theorem dMo_does_96 : decode cMo_does 96 = .ok (.iconst 4, 1) := by decide +kernel
theorem dMo_does_97 : decode cMo_does 97 = .ok (.invokestatic 43, 3) := by decide +kernel
theorem dMo_does_100 : decode cMo_does 100 = .ok (.i2l, 1) := by decide +kernel
theorem dMo_does_101 : decode cMo_does 101 = .ok (.lstore_n 2, 1) := by decide +kernel
theorem dMo_does_102 : decode cMo_does 102 = .ok (.aload_n 0, 1) := by decide +kernel
theorem dMo_does_103 : decode cMo_does 103 = .ok (.getfield 17, 3) := by decide +kernel
theorem dMo_does_106 : decode cMo_does 106 = .ok (.aload_n 0, 1) := by decide +kernel
theorem dMo_does_107 : decode cMo_does 107 = .ok (.getfield 37, 3) := by decide +kernel
theorem dMo_does_110 : decode cMo_does 110 = .ok (.lload_n 2, 1) := by decide +kernel
theorem dMo_does_111 : decode cMo_does 111 = .ok (.bipush 32, 2) := by decide +kernel
theorem dMo_does_113 : decode cMo_does 113 = .ok (.lshl, 1) := by decide +kernel
theorem dMo_does_114 : decode cMo_does 114 = .ok (.aload_n 0, 1) := by decide +kernel
theorem dMo_does_115 : decode cMo_does 115 = .ok (.getfield 50, 3) := by decide +kernel
theorem dMo_does_118 : decode cMo_does 118 = .ok (.i2l, 1) := by decide +kernel
theorem dMo_does_119 : decode cMo_does 119 = .ok (.ldc2_w 174, 3) := by decide +kernel
theorem dMo_does_122 : decode cMo_does 122 = .ok (.land, 1) := by decide +kernel
theorem dMo_does_123 : decode cMo_does 123 = .ok (.lor, 1) := by decide +kernel
theorem dMo_does_124 : decode cMo_does 124 = .ok (.lastore, 1) := by decide +kernel
theorem dMo_does_125 : decode cMo_does 125 = .ok (.iconst 1, 1) := by decide +kernel
theorem dMo_does_126 : decode cMo_does 126 = .ok (.ireturn, 1) := by decide +kernel
theorem dMo_does_127 : decode cMo_does 127 = .ok (.aload_n 0, 1) := by decide +kernel
theorem dMo_does_128 : decode cMo_does 128 = .ok (.invokevirtual 176, 3) := by decide +kernel
theorem dMo_does_131 : decode cMo_does 131 = .ok (.ireturn, 1) := by decide +kernel
theorem dMo_run_0 : decode cMo_run 0 = .ok (.aload_n 0, 1) := by decide +kernel
theorem dMo_run_1 : decode cMo_run 1 = .ok (.iload_n 1, 1) := by decide +kernel
theorem dMo_run_2 : decode cMo_run 2 = .ok (.ifCond .lt 9, 3) := by decide +kernel
theorem dMo_run_5 : decode cMo_run 5 = .ok (.iload_n 1, 1) := by decide +kernel
theorem dMo_run_6 : decode cMo_run 6 = .ok (.ldc 179, 2) := by decide +kernel
theorem dMo_run_8 : decode cMo_run 8 = .ok (.if_icmp .le 7, 3) := by decide +kernel
theorem dMo_run_11 : decode cMo_run 11 = .ok (.iconst 1, 1) := by decide +kernel
theorem dMo_run_12 : decode cMo_run 12 = .ok (.goto 15, 3) := by decide +kernel
theorem dMo_run_15 : decode cMo_run 15 = .ok (.aload_n 0, 1) := by decide +kernel
theorem dMo_run_16 : decode cMo_run 16 = .ok (.getfield 104, 3) := by decide +kernel
theorem dMo_run_19 : decode cMo_run 19 = .ok (.ifCond .ne 7, 3) := by decide +kernel
theorem dMo_run_22 : decode cMo_run 22 = .ok (.iconst 2, 1) := by decide +kernel
theorem dMo_run_23 : decode cMo_run 23 = .ok (.goto 4, 3) := by decide +kernel
theorem dMo_run_26 : decode cMo_run 26 = .ok (.iconst 0, 1) := by decide +kernel
theorem dMo_run_27 : decode cMo_run 27 = .ok (.putfield 28, 3) := by decide +kernel
theorem dMo_run_30 : decode cMo_run 30 = .ok (.aload_n 0, 1) := by decide +kernel
theorem dMo_run_31 : decode cMo_run 31 = .ok (.getfield 28, 3) := by decide +kernel
theorem dMo_run_34 : decode cMo_run 34 = .ok (.ifCond .le 5, 3) := by decide +kernel
theorem dMo_run_37 : decode cMo_run 37 = .ok (.iconst 0, 1) := by decide +kernel
theorem dMo_run_38 : decode cMo_run 38 = .ok (.ireturn, 1) := by decide +kernel
theorem dMo_run_39 : decode cMo_run 39 = .ok (.aload_n 0, 1) := by decide +kernel
theorem dMo_run_40 : decode cMo_run 40 = .ok (.iconst 0, 1) := by decide +kernel
theorem dMo_run_41 : decode cMo_run 41 = .ok (.putfield 180, 3) := by decide +kernel
theorem dMo_run_44 : decode cMo_run 44 = .ok (.iconst 0, 1) := by decide +kernel
theorem dMo_run_45 : decode cMo_run 45 = .ok (.istore_n 2, 1) := by decide +kernel
theorem dMo_run_46 : decode cMo_run 46 = .ok (.iconst (-1), 1) := by decide +kernel
theorem dMo_run_47 : decode cMo_run 47 = .ok (.istore_n 3, 1) := by decide +kernel
theorem dMo_run_48 : decode cMo_run 48 = .ok (.iload_n 3, 1) := by decide +kernel
theorem dMo_run_49 : decode cMo_run 49 = .ok (.iconst (-1), 1) := by decide +kernel
theorem dMo_run_50 : decode cMo_run 50 = .ok (.if_icmp .ne 86, 3) := by decide +kernel
theorem dMo_run_53 : decode cMo_run 53 = .ok (.aload_n 0, 1) := by decide +kernel
theorem dMo_run_54 : decode cMo_run 54 = .ok (.iload_n 2, 1) := by decide +kernel
theorem dMo_run_55 : decode cMo_run 55 = .ok (.putfield 24, 3) := by decide +kernel
theorem dMo_run_58 : decode cMo_run 58 = .ok (.aload_n 0, 1) := by decide +kernel
theorem dMo_run_59 : decode cMo_run 59 = .ok (.aload_n 0, 1) := by decide +kernel
theorem dMo_run_60 : decode cMo_run 60 = .ok (.getfield 14, 3) := by decide +kernel
theorem dMo_run_63 : decode cMo_run 63 = .ok (.iload_n 2, 1) := by decide +kernel
theorem dMo_run_64 : decode cMo_run 64 = .ok (.invokevirtual 70, 3) := by decide +kernel
theorem dMo_run_67 : decode cMo_run 67 = .ok (.aload_n 0, 1) := by decide +kernel
theorem dMo_run_68 : decode cMo_run 68 = .ok (.getfield 180, 3) := by decide +kernel
theorem dMo_run_71 : decode cMo_run 71 = .ok (.iload_n 1, 1) := by decide +kernel
theorem dMo_run_72 : decode cMo_run 72 = .ok (.if_icmp .ne 8, 3) := by decide +kernel
theorem dMo_run_75 : decode cMo_run 75 = .ok (.iconst 1, 1) := by decide +kernel
theorem dMo_run_76 : decode cMo_run 76 = .ok (.istore_n 3, 1) := by decide +kernel
theorem dMo_run_77 : decode cMo_run 77 = .ok (.goto (-29), 3) := by decide +kernel
theorem dMo_run_80 : decode cMo_run 80 = .ok (.aload_n 0, 1) := by decide +kernel
theorem dMo_run_81 : decode cMo_run 81 = .ok (.getfield 34, 3) := by decide +kernel
theorem dMo_run_84 : decode cMo_run 84 = .ok (.sipush 149, 3) := by decide +kernel
theorem dMo_run_87 : decode cMo_run 87 = .ok (.if_icmp .ne 18, 3) := by decide +kernel
theorem dMo_run_90 : decode cMo_run 90 = .ok (.aload_n 0, 1) := by decide +kernel
theorem dMo_run_91 : decode cMo_run 91 = .ok (.dup, 1) := by decide +kernel
theorem dMo_run_92 : decode cMo_run 92 = .ok (.getfield 180, 3) := by decide +kernel
theorem dMo_run_95 : decode cMo_run 95 = .ok (.iconst 1, 1) := by decide +kernel
theorem dMo_run_96 : decode cMo_run 96 = .ok (.iadd, 1) := by decide +kernel
theorem dMo_run_97 : decode cMo_run 97 = .ok (.putfield 180, 3) := by decide +kernel
theorem dMo_run_100 : decode cMo_run 100 = .ok (.iconst 0, 1) := by decide +kernel
theorem dMo_run_101 : decode cMo_run 101 = .ok (.istore_n 3, 1) := by decide +kernel
theorem dMo_run_102 : decode cMo_run 102 = .ok (.goto (-54), 3) := by decide +kernel
theorem dMo_run_105 : decode cMo_run 105 = .ok (.aload_n 0, 1) := by decide +kernel
theorem dMo_run_106 : decode cMo_run 106 = .ok (.iload_n 2, 1) := by decide +kernel
theorem dMo_run_107 : decode cMo_run 107 = .ok (.invokevirtual 183, 3) := by decide +kernel
theorem dMo_run_110 : decode cMo_run 110 = .ok (.ifCond .eq 21, 3) := by decide +kernel
theorem dMo_run_113 : decode cMo_run 113 = .ok (.aload_n 0, 1) := by decide +kernel
theorem dMo_run_114 : decode cMo_run 114 = .ok (.dup, 1) := by decide +kernel
theorem dMo_run_115 : decode cMo_run 115 = .ok (.getfield 180, 3) := by decide +kernel
theorem dMo_run_118 : decode cMo_run 118 = .ok (.iconst 1, 1) := by decide +kernel
theorem dMo_run_119 : decode cMo_run 119 = .ok (.iadd, 1) := by decide +kernel
theorem dMo_run_120 : decode cMo_run 120 = .ok (.putfield 180, 3) := by decide +kernel
theorem dMo_run_123 : decode cMo_run 123 = .ok (.aload_n 0, 1) := by decide +kernel
theorem dMo_run_124 : decode cMo_run 124 = .ok (.getfield 158, 3) := by decide +kernel
theorem dMo_run_127 : decode cMo_run 127 = .ok (.istore_n 2, 1) := by decide +kernel
theorem dMo_run_128 : decode cMo_run 128 = .ok (.goto (-80), 3) := by decide +kernel
theorem dMo_run_131 : decode cMo_run 131 = .ok (.iconst 2, 1) := by decide +kernel
theorem dMo_run_132 : decode cMo_run 132 = .ok (.istore_n 3, 1) := by decide +kernel
theorem dMo_run_133 : decode cMo_run 133 = .ok (.goto (-85), 3) := by decide +kernel
theorem dMo_run_136 : decode cMo_run 136 = .ok (.iload_n 3, 1) := by decide +kernel
theorem dMo_run_137 : decode cMo_run 137 = .ok (.ireturn, 1) := by decide +kernel
theorem dMo_place_0 : decode cMo_place 0 = .ok (.aload_n 0, 1) := by decide +kernel
theorem dMo_place_1 : decode cMo_place 1 = .ok (.iconst 0, 1) := by decide +kernel
theorem dMo_place_2 : decode cMo_place 2 = .ok (.putfield 28, 3) := by decide +kernel
theorem dMo_place_5 : decode cMo_place 5 = .ok (.aload_n 0, 1) := by decide +kernel
theorem dMo_place_6 : decode cMo_place 6 = .ok (.getfield 24, 3) := by decide +kernel
theorem dMo_place_9 : decode cMo_place 9 = .ok (.ireturn, 1) := by decide +kernel
theorem dMo_steps_0 : decode cMo_steps 0 = .ok (.aload_n 0, 1) := by decide +kernel
theorem dMo_steps_1 : decode cMo_steps 1 = .ok (.iconst 0, 1) := by decide +kernel
theorem dMo_steps_2 : decode cMo_steps 2 = .ok (.putfield 28, 3) := by decide +kernel
theorem dMo_steps_5 : decode cMo_steps 5 = .ok (.aload_n 0, 1) := by decide +kernel
theorem dMo_steps_6 : decode cMo_steps 6 = .ok (.getfield 180, 3) := by decide +kernel
theorem dMo_steps_9 : decode cMo_steps 9 = .ok (.ireturn, 1) := by decide +kernel
