theorem dJl_reverseBytes_0 : decode cJl_reverseBytes 0 = .ok (.lload_n 0, 1) := by decide +kernel
theorem dJl_reverseBytes_1 : decode cJl_reverseBytes 1 = .ok (.ldc2_w 327, 3) := by decide +kernel
theorem dJl_reverseBytes_4 : decode cJl_reverseBytes 4 = .ok (.land, 1) := by decide +kernel
theorem dJl_reverseBytes_5 : decode cJl_reverseBytes 5 = .ok (.bipush 8, 2) := by decide +kernel
theorem dJl_reverseBytes_7 : decode cJl_reverseBytes 7 = .ok (.lshl, 1) := by decide +kernel
theorem dJl_reverseBytes_8 : decode cJl_reverseBytes 8 = .ok (.lload_n 0, 1) := by decide +kernel
theorem dJl_reverseBytes_9 : decode cJl_reverseBytes 9 = .ok (.bipush 8, 2) := by decide +kernel
theorem dJl_reverseBytes_11 : decode cJl_reverseBytes 11 = .ok (.lushr, 1) := by decide +kernel
theorem dJl_reverseBytes_12 : decode cJl_reverseBytes 12 = .ok (.ldc2_w 327, 3) := by decide +kernel
theorem dJl_reverseBytes_15 : decode cJl_reverseBytes 15 = .ok (.land, 1) := by decide +kernel
theorem dJl_reverseBytes_16 : decode cJl_reverseBytes 16 = .ok (.lor, 1) := by decide +kernel
theorem dJl_reverseBytes_17 : decode cJl_reverseBytes 17 = .ok (.lstore_n 0, 1) := by decide +kernel
theorem dJl_reverseBytes_18 : decode cJl_reverseBytes 18 = .ok (.lload_n 0, 1) := by decide +kernel
theorem dJl_reverseBytes_19 : decode cJl_reverseBytes 19 = .ok (.bipush 48, 2) := by decide +kernel
theorem dJl_reverseBytes_21 : decode cJl_reverseBytes 21 = .ok (.lshl, 1) := by decide +kernel
theorem dJl_reverseBytes_22 : decode cJl_reverseBytes 22 = .ok (.lload_n 0, 1) := by decide +kernel
theorem dJl_reverseBytes_23 : decode cJl_reverseBytes 23 = .ok (.ldc2_w 329, 3) := by decide +kernel
theorem dJl_reverseBytes_26 : decode cJl_reverseBytes 26 = .ok (.land, 1) := by decide +kernel
theorem dJl_reverseBytes_27 : decode cJl_reverseBytes 27 = .ok (.bipush 16, 2) := by decide +kernel
theorem dJl_reverseBytes_29 : decode cJl_reverseBytes 29 = .ok (.lshl, 1) := by decide +kernel
theorem dJl_reverseBytes_30 : decode cJl_reverseBytes 30 = .ok (.lor, 1) := by decide +kernel
theorem dJl_reverseBytes_31 : decode cJl_reverseBytes 31 = .ok (.lload_n 0, 1) := by decide +kernel
theorem dJl_reverseBytes_32 : decode cJl_reverseBytes 32 = .ok (.bipush 16, 2) := by decide +kernel
theorem dJl_reverseBytes_34 : decode cJl_reverseBytes 34 = .ok (.lushr, 1) := by decide +kernel
theorem dJl_reverseBytes_35 : decode cJl_reverseBytes 35 = .ok (.ldc2_w 329, 3) := by decide +kernel
theorem dJl_reverseBytes_38 : decode cJl_reverseBytes 38 = .ok (.land, 1) := by decide +kernel
theorem dJl_reverseBytes_39 : decode cJl_reverseBytes 39 = .ok (.lor, 1) := by decide +kernel
theorem dJl_reverseBytes_40 : decode cJl_reverseBytes 40 = .ok (.lload_n 0, 1) := by decide +kernel
theorem dJl_reverseBytes_41 : decode cJl_reverseBytes 41 = .ok (.bipush 48, 2) := by decide +kernel
theorem dJl_reverseBytes_43 : decode cJl_reverseBytes 43 = .ok (.lushr, 1) := by decide +kernel
theorem dJl_reverseBytes_44 : decode cJl_reverseBytes 44 = .ok (.lor, 1) := by decide +kernel
theorem dJl_reverseBytes_45 : decode cJl_reverseBytes 45 = .ok (.lreturn, 1) := by decide +kernel
