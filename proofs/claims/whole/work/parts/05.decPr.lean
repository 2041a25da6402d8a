theorem dPr_has_0 : decode cPr_has 0 = .ok (.lload_n 1, 1) := by decide +kernel
theorem dPr_has_1 : decode cPr_has 1 = .ok (.lconst 0, 1) := by decide +kernel
theorem dPr_has_2 : decode cPr_has 2 = .ok (.lcmp, 1) := by decide +kernel
theorem dPr_has_3 : decode cPr_has 3 = .ok (.ifCond .lt 17, 3) := by decide +kernel
theorem dPr_has_6 : decode cPr_has 6 = .ok (.lload_n 1, 1) := by decide +kernel
theorem dPr_has_7 : decode cPr_has 7 = .ok (.aload_n 0, 1) := by decide +kernel
theorem dPr_has_8 : decode cPr_has 8 = .ok (.getfield 13, 3) := by decide +kernel
theorem dPr_has_11 : decode cPr_has 11 = .ok (.i2l, 1) := by decide +kernel
theorem dPr_has_12 : decode cPr_has 12 = .ok (.lcmp, 1) := by decide +kernel
theorem dPr_has_13 : decode cPr_has 13 = .ok (.ifCond .ge 7, 3) := by decide +kernel
theorem dPr_has_16 : decode cPr_has 16 = .ok (.iconst 1, 1) := by decide +kernel
theorem dPr_has_17 : decode cPr_has 17 = .ok (.goto 4, 3) := by decide +kernel
theorem dPr_has_20 : decode cPr_has 20 = .ok (.iconst 0, 1) := by decide +kernel
theorem dPr_has_21 : decode cPr_has 21 = .ok (.ireturn, 1) := by decide +kernel
theorem dPr_at_0 : decode cPr_at 0 = .ok (.aload_n 0, 1) := by decide +kernel
theorem dPr_at_1 : decode cPr_at 1 = .ok (.iload_n 1, 1) := by decide +kernel
theorem dPr_at_2 : decode cPr_at 2 = .ok (.i2l, 1) := by decide +kernel
theorem dPr_at_3 : decode cPr_at 3 = .ok (.invokevirtual 32, 3) := by decide +kernel
theorem dPr_at_6 : decode cPr_at 6 = .ok (.ifCond .eq 12, 3) := by decide +kernel
theorem dPr_at_9 : decode cPr_at 9 = .ok (.aload_n 0, 1) := by decide +kernel
theorem dPr_at_10 : decode cPr_at 10 = .ok (.getfield 7, 3) := by decide +kernel
theorem dPr_at_13 : decode cPr_at 13 = .ok (.iload_n 1, 1) := by decide +kernel
theorem dPr_at_14 : decode cPr_at 14 = .ok (.laload, 1) := by decide +kernel
theorem dPr_at_15 : decode cPr_at 15 = .ok (.goto 4, 3) := by decide +kernel
theorem dPr_at_18 : decode cPr_at 18 = .ok (.lconst 0, 1) := by decide +kernel
theorem dPr_at_19 : decode cPr_at 19 = .ok (.lreturn, 1) := by decide +kernel
