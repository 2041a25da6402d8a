theorem dPr_init_0 : decode cPr_init 0 = .ok (.aload_n 0, 1) := by decide +kernel
theorem dPr_init_1 : decode cPr_init 1 = .ok (.invokespecial 1, 3) := by decide +kernel
theorem dPr_init_4 : decode cPr_init 4 = .ok (.aload_n 0, 1) := by decide +kernel
theorem dPr_init_5 : decode cPr_init 5 = .ok (.bipush 64, 2) := by decide +kernel
theorem dPr_init_7 : decode cPr_init 7 = .ok (.newarray .long, 2) := by decide +kernel
theorem dPr_init_9 : decode cPr_init 9 = .ok (.putfield 7, 3) := by decide +kernel
theorem dPr_init_12 : decode cPr_init 12 = .ok (.aload_n 0, 1) := by decide +kernel
theorem dPr_init_13 : decode cPr_init 13 = .ok (.iconst 0, 1) := by decide +kernel
theorem dPr_init_14 : decode cPr_init 14 = .ok (.putfield 13, 3) := by decide +kernel
theorem dPr_init_17 : decode cPr_init 17 = .ok (.return_, 1) := by decide +kernel
theorem dPr_takeFrom_0 : decode cPr_takeFrom 0 = .ok (.aload_n 0, 1) := by decide +kernel
theorem dPr_takeFrom_1 : decode cPr_takeFrom 1 = .ok (.aload_n 1, 1) := by decide +kernel
theorem dPr_takeFrom_2 : decode cPr_takeFrom 2 = .ok (.getfield 17, 3) := by decide +kernel
theorem dPr_takeFrom_5 : decode cPr_takeFrom 5 = .ok (.bipush 8, 2) := by decide +kernel
theorem dPr_takeFrom_7 : decode cPr_takeFrom 7 = .ok (.idiv, 1) := by decide +kernel
theorem dPr_takeFrom_8 : decode cPr_takeFrom 8 = .ok (.putfield 13, 3) := by decide +kernel
theorem dPr_takeFrom_11 : decode cPr_takeFrom 11 = .ok (.aload_n 0, 1) := by decide +kernel
theorem dPr_takeFrom_12 : decode cPr_takeFrom 12 = .ok (.getfield 13, 3) := by decide +kernel
theorem dPr_takeFrom_15 : decode cPr_takeFrom 15 = .ok (.aload_n 0, 1) := by decide +kernel
theorem dPr_takeFrom_16 : decode cPr_takeFrom 16 = .ok (.getfield 7, 3) := by decide +kernel
theorem dPr_takeFrom_19 : decode cPr_takeFrom 19 = .ok (.arraylength, 1) := by decide +kernel
theorem dPr_takeFrom_20 : decode cPr_takeFrom 20 = .ok (.if_icmp .le 23, 3) := by decide +kernel
theorem dPr_takeFrom_23 : decode cPr_takeFrom 23 = .ok (.aload_n 0, 1) := by decide +kernel
theorem dPr_takeFrom_24 : decode cPr_takeFrom 24 = .ok (.aload_n 0, 1) := by decide +kernel
theorem dPr_takeFrom_25 : decode cPr_takeFrom 25 = .ok (.getfield 13, 3) := by decide +kernel
theorem dPr_takeFrom_28 : decode cPr_takeFrom 28 = .ok (.iconst 2, 1) := by decide +kernel
theorem dPr_takeFrom_29 : decode cPr_takeFrom 29 = .ok (.aload_n 0, 1) := by decide +kernel
theorem dPr_takeFrom_30 : decode cPr_takeFrom 30 = .ok (.getfield 7, 3) := by decide +kernel
theorem dPr_takeFrom_33 : decode cPr_takeFrom 33 = .ok (.arraylength, 1) := by decide +kernel
theorem dPr_takeFrom_34 : decode cPr_takeFrom 34 = .ok (.imul, 1) := by decide +kernel
theorem dPr_takeFrom_35 : decode cPr_takeFrom 35 = .ok (.invokestatic 22, 3) := by decide +kernel
theorem dPr_takeFrom_38 : decode cPr_takeFrom 38 = .ok (.newarray .long, 2) := by decide +kernel
theorem dPr_takeFrom_40 : decode cPr_takeFrom 40 = .ok (.putfield 7, 3) := by decide +kernel
theorem dPr_takeFrom_43 : decode cPr_takeFrom 43 = .ok (.iconst 0, 1) := by decide +kernel
theorem dPr_takeFrom_44 : decode cPr_takeFrom 44 = .ok (.istore_n 2, 1) := by decide +kernel
theorem dPr_takeFrom_45 : decode cPr_takeFrom 45 = .ok (.iload_n 2, 1) := by decide +kernel
theorem dPr_takeFrom_46 : decode cPr_takeFrom 46 = .ok (.aload_n 0, 1) := by decide +kernel
theorem dPr_takeFrom_47 : decode cPr_takeFrom 47 = .ok (.getfield 13, 3) := by decide +kernel
theorem dPr_takeFrom_50 : decode cPr_takeFrom 50 = .ok (.if_icmp .ge 20, 3) := by decide +kernel
theorem dPr_takeFrom_53 : decode cPr_takeFrom 53 = .ok (.aload_n 0, 1) := by decide +kernel
theorem dPr_takeFrom_54 : decode cPr_takeFrom 54 = .ok (.getfield 7, 3) := by decide +kernel
theorem dPr_takeFrom_57 : decode cPr_takeFrom 57 = .ok (.iload_n 2, 1) := by decide +kernel
theorem dPr_takeFrom_58 : decode cPr_takeFrom 58 = .ok (.aload_n 1, 1) := by decide +kernel
theorem dPr_takeFrom_59 : decode cPr_takeFrom 59 = .ok (.iload_n 2, 1) := by decide +kernel
theorem dPr_takeFrom_60 : decode cPr_takeFrom 60 = .ok (.invokevirtual 28, 3) := by decide +kernel
theorem dPr_takeFrom_63 : decode cPr_takeFrom 63 = .ok (.lastore, 1) := by decide +kernel
theorem dPr_takeFrom_64 : decode cPr_takeFrom 64 = .ok (.iinc 2 1, 3) := by decide +kernel
theorem dPr_takeFrom_67 : decode cPr_takeFrom 67 = .ok (.goto (-22), 3) := by decide +kernel
theorem dPr_takeFrom_70 : decode cPr_takeFrom 70 = .ok (.return_, 1) := by decide +kernel
theorem dPr_has_0 : decode cPr_has 0 = .ok (.lload_n 1, 1) := by decide +kernel
theorem dPr_has_1 : decode cPr_has 1 = .ok (.lconst 0, 1) := by decide +kernel
theorem dPr_has_2 : decode cPr_has 2 = .ok (.lcmp, 1) := by decide +kernel
theorem dPr_has_3 : decode cPr_has 3 = .ok (.ifCond .lt 17, 3) := by decide +kernel
theorem dPr_has_6 : decode cPr_has 6 = .ok (.lload_n 1, 1) := by decide +kernel
theorem dPr_has_7 : decode cPr_has 7 = .ok (.aload_n 0, 1) := by decide +kernel
theorem dPr_has_8 : decode cPr_has 8 = .ok (.getfield 13, 3) := by decide +kernel
theorem dPr_has_11 : decode cPr_has 11 = .ok (.i2l, 1) := by decide +kernel
theorem dPr_has_12 : decode cPr_has 12 = .ok (.lcmp, 1) := by decide +kernel
theorem dPr_has_13 : decode cPr_has 13 = .ok (.ifCond .ge 7, 3) := by decide +kernel
theorem dPr_has_16 : decode cPr_has 16 = .ok (.iconst 1, 1) := by decide +kernel
theorem dPr_has_17 : decode cPr_has 17 = .ok (.goto 4, 3) := by decide +kernel
theorem dPr_has_20 : decode cPr_has 20 = .ok (.iconst 0, 1) := by decide +kernel
theorem dPr_has_21 : decode cPr_has 21 = .ok (.ireturn, 1) := by decide +kernel
theorem dPr_at_0 : decode cPr_at 0 = .ok (.aload_n 0, 1) := by decide +kernel
theorem dPr_at_1 : decode cPr_at 1 = .ok (.iload_n 1, 1) := by decide +kernel
theorem dPr_at_2 : decode cPr_at 2 = .ok (.i2l, 1) := by decide +kernel
theorem dPr_at_3 : decode cPr_at 3 = .ok (.invokevirtual 32, 3) := by decide +kernel
theorem dPr_at_6 : decode cPr_at 6 = .ok (.ifCond .eq 12, 3) := by decide +kernel
theorem dPr_at_9 : decode cPr_at 9 = .ok (.aload_n 0, 1) := by decide +kernel
theorem dPr_at_10 : decode cPr_at 10 = .ok (.getfield 7, 3) := by decide +kernel
theorem dPr_at_13 : decode cPr_at 13 = .ok (.iload_n 1, 1) := by decide +kernel
theorem dPr_at_14 : decode cPr_at 14 = .ok (.laload, 1) := by decide +kernel
theorem dPr_at_15 : decode cPr_at 15 = .ok (.goto 4, 3) := by decide +kernel
theorem dPr_at_18 : decode cPr_at 18 = .ok (.lconst 0, 1) := by decide +kernel
theorem dPr_at_19 : decode cPr_at 19 = .ok (.lreturn, 1) := by decide +kernel
