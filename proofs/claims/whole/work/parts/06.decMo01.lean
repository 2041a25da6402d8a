theorem dMo_kind_0 : decode cMo_kind 0 = .ok (.aload_n 0, 1) := by decide +kernel
theorem dMo_kind_1 : decode cMo_kind 1 = .ok (.getfield 34, 3) := by decide +kernel
theorem dMo_kind_4 : decode cMo_kind 4 = .ok (.bipush 7, 2) := by decide +kernel
theorem dMo_kind_6 : decode cMo_kind 6 = .ok (.iand, 1) := by decide +kernel
theorem dMo_kind_7 : decode cMo_kind 7 = .ok (.ireturn, 1) := by decide +kernel
theorem dMo_n_0 : decode cMo_n 0 = .ok (.aload_n 0, 1) := by decide +kernel
theorem dMo_n_1 : decode cMo_n 1 = .ok (.getfield 34, 3) := by decide +kernel
theorem dMo_n_4 : decode cMo_n 4 = .ok (.iconst 4, 1) := by decide +kernel
theorem dMo_n_5 : decode cMo_n 5 = .ok (.ishr, 1) := by decide +kernel
theorem dMo_n_6 : decode cMo_n 6 = .ok (.ireturn, 1) := by decide +kernel
theorem dMo_bit3_0 : decode cMo_bit3 0 = .ok (.aload_n 0, 1) := by decide +kernel
theorem dMo_bit3_1 : decode cMo_bit3 1 = .ok (.getfield 34, 3) := by decide +kernel
theorem dMo_bit3_4 : decode cMo_bit3 4 = .ok (.iconst 3, 1) := by decide +kernel
theorem dMo_bit3_5 : decode cMo_bit3 5 = .ok (.ishr, 1) := by decide +kernel
theorem dMo_bit3_6 : decode cMo_bit3 6 = .ok (.iconst 1, 1) := by decide +kernel
theorem dMo_bit3_7 : decode cMo_bit3 7 = .ok (.iand, 1) := by decide +kernel
theorem dMo_bit3_8 : decode cMo_bit3 8 = .ok (.iconst 1, 1) := by decide +kernel
theorem dMo_bit3_9 : decode cMo_bit3 9 = .ok (.if_icmp .ne 7, 3) := by decide +kernel
theorem dMo_bit3_12 : decode cMo_bit3 12 = .ok (.iconst 1, 1) := by decide +kernel
theorem dMo_bit3_13 : decode cMo_bit3 13 = .ok (.goto 4, 3) := by decide +kernel
theorem dMo_bit3_16 : decode cMo_bit3 16 = .ok (.iconst 0, 1) := by decide +kernel
theorem dMo_bit3_17 : decode cMo_bit3 17 = .ok (.ireturn, 1) := by decide +kernel
theorem dMo_size_0 : decode cMo_size 0 = .ok (.aload_n 0, 1) := by decide +kernel
theorem dMo_size_1 : decode cMo_size 1 = .ok (.getfield 34, 3) := by decide +kernel
theorem dMo_size_4 : decode cMo_size 4 = .ok (.iconst 3, 1) := by decide +kernel
theorem dMo_size_5 : decode cMo_size 5 = .ok (.ishr, 1) := by decide +kernel
theorem dMo_size_6 : decode cMo_size 6 = .ok (.iconst 3, 1) := by decide +kernel
theorem dMo_size_7 : decode cMo_size 7 = .ok (.iand, 1) := by decide +kernel
theorem dMo_size_8 : decode cMo_size 8 = .ok (.istore_n 1, 1) := by decide +kernel
theorem dMo_size_9 : decode cMo_size 9 = .ok (.iload_n 1, 1) := by decide +kernel
theorem dMo_size_10 : decode cMo_size 10 = .ok (.ifCond .ne 7, 3) := by decide +kernel
theorem dMo_size_13 : decode cMo_size 13 = .ok (.iconst 4, 1) := by decide +kernel
theorem dMo_size_14 : decode cMo_size 14 = .ok (.goto 23, 3) := by decide +kernel
theorem dMo_size_17 : decode cMo_size 17 = .ok (.iload_n 1, 1) := by decide +kernel
theorem dMo_size_18 : decode cMo_size 18 = .ok (.iconst 1, 1) := by decide +kernel
theorem dMo_size_19 : decode cMo_size 19 = .ok (.if_icmp .ne 7, 3) := by decide +kernel
theorem dMo_size_22 : decode cMo_size 22 = .ok (.iconst 2, 1) := by decide +kernel
theorem dMo_size_23 : decode cMo_size 23 = .ok (.goto 14, 3) := by decide +kernel
theorem dMo_size_26 : decode cMo_size 26 = .ok (.iload_n 1, 1) := by decide +kernel
theorem dMo_size_27 : decode cMo_size 27 = .ok (.iconst 2, 1) := by decide +kernel
theorem dMo_size_28 : decode cMo_size 28 = .ok (.if_icmp .ne 7, 3) := by decide +kernel
theorem dMo_size_31 : decode cMo_size 31 = .ok (.iconst 1, 1) := by decide +kernel
theorem dMo_size_32 : decode cMo_size 32 = .ok (.goto 5, 3) := by decide +kernel
theorem dMo_size_35 : decode cMo_size 35 = .ok (.bipush 8, 2) := by decide +kernel
theorem dMo_size_37 : decode cMo_size 37 = .ok (.ireturn, 1) := by decide +kernel
theorem dMo_mode_0 : decode cMo_mode 0 = .ok (.aload_n 0, 1) := by decide +kernel
theorem dMo_mode_1 : decode cMo_mode 1 = .ok (.getfield 34, 3) := by decide +kernel
theorem dMo_mode_4 : decode cMo_mode 4 = .ok (.iconst 5, 1) := by decide +kernel
theorem dMo_mode_5 : decode cMo_mode 5 = .ok (.ishr, 1) := by decide +kernel
theorem dMo_mode_6 : decode cMo_mode 6 = .ok (.ireturn, 1) := by decide +kernel
theorem dMo_isWide_0 : decode cMo_isWide 0 = .ok (.aload_n 0, 1) := by decide +kernel
theorem dMo_isWide_1 : decode cMo_isWide 1 = .ok (.getfield 34, 3) := by decide +kernel
theorem dMo_isWide_4 : decode cMo_isWide 4 = .ok (.bipush 24, 2) := by decide +kernel
theorem dMo_isWide_6 : decode cMo_isWide 6 = .ok (.if_icmp .ne 7, 3) := by decide +kernel
theorem dMo_isWide_9 : decode cMo_isWide 9 = .ok (.iconst 1, 1) := by decide +kernel
theorem dMo_isWide_10 : decode cMo_isWide 10 = .ok (.goto 4, 3) := by decide +kernel
theorem dMo_isWide_13 : decode cMo_isWide 13 = .ok (.iconst 0, 1) := by decide +kernel
theorem dMo_isWide_14 : decode cMo_isWide 14 = .ok (.ireturn, 1) := by decide +kernel
