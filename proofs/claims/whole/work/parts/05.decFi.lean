theorem dFi_code_0 : decode cFi_code 0 = .ok (.lload_n 0, 1) := by decide +kernel
theorem dFi_code_1 : decode cFi_code 1 = .ok (.l2i, 1) := by decide +kernel
theorem dFi_code_2 : decode cFi_code 2 = .ok (.sipush 255, 3) := by decide +kernel
theorem dFi_code_5 : decode cFi_code 5 = .ok (.iand, 1) := by decide +kernel
theorem dFi_code_6 : decode cFi_code 6 = .ok (.ireturn, 1) := by decide +kernel
theorem dFi_kind_0 : decode cFi_kind 0 = .ok (.lload_n 0, 1) := by decide +kernel
theorem dFi_kind_1 : decode cFi_kind 1 = .ok (.l2i, 1) := by decide +kernel
theorem dFi_kind_2 : decode cFi_kind 2 = .ok (.bipush 7, 2) := by decide +kernel
theorem dFi_kind_4 : decode cFi_kind 4 = .ok (.iand, 1) := by decide +kernel
theorem dFi_kind_5 : decode cFi_kind 5 = .ok (.ireturn, 1) := by decide +kernel
theorem dFi_operation_0 : decode cFi_operation 0 = .ok (.lload_n 0, 1) := by decide +kernel
theorem dFi_operation_1 : decode cFi_operation 1 = .ok (.iconst 4, 1) := by decide +kernel
theorem dFi_operation_2 : decode cFi_operation 2 = .ok (.lushr, 1) := by decide +kernel
theorem dFi_operation_3 : decode cFi_operation 3 = .ok (.l2i, 1) := by decide +kernel
theorem dFi_operation_4 : decode cFi_operation 4 = .ok (.bipush 15, 2) := by decide +kernel
theorem dFi_operation_6 : decode cFi_operation 6 = .ok (.iand, 1) := by decide +kernel
theorem dFi_operation_7 : decode cFi_operation 7 = .ok (.ireturn, 1) := by decide +kernel
theorem dFi_usesSource_0 : decode cFi_usesSource 0 = .ok (.lload_n 0, 1) := by decide +kernel
theorem dFi_usesSource_1 : decode cFi_usesSource 1 = .ok (.ldc2_w 7, 3) := by decide +kernel
theorem dFi_usesSource_4 : decode cFi_usesSource 4 = .ok (.land, 1) := by decide +kernel
theorem dFi_usesSource_5 : decode cFi_usesSource 5 = .ok (.lconst 0, 1) := by decide +kernel
theorem dFi_usesSource_6 : decode cFi_usesSource 6 = .ok (.lcmp, 1) := by decide +kernel
theorem dFi_usesSource_7 : decode cFi_usesSource 7 = .ok (.ifCond .eq 7, 3) := by decide +kernel
theorem dFi_usesSource_10 : decode cFi_usesSource 10 = .ok (.iconst 1, 1) := by decide +kernel
theorem dFi_usesSource_11 : decode cFi_usesSource 11 = .ok (.goto 4, 3) := by decide +kernel
theorem dFi_usesSource_14 : decode cFi_usesSource 14 = .ok (.iconst 0, 1) := by decide +kernel
theorem dFi_usesSource_15 : decode cFi_usesSource 15 = .ok (.ireturn, 1) := by decide +kernel
theorem dFi_mode_0 : decode cFi_mode 0 = .ok (.lload_n 0, 1) := by decide +kernel
theorem dFi_mode_1 : decode cFi_mode 1 = .ok (.iconst 5, 1) := by decide +kernel
theorem dFi_mode_2 : decode cFi_mode 2 = .ok (.lushr, 1) := by decide +kernel
theorem dFi_mode_3 : decode cFi_mode 3 = .ok (.l2i, 1) := by decide +kernel
theorem dFi_mode_4 : decode cFi_mode 4 = .ok (.bipush 7, 2) := by decide +kernel
theorem dFi_mode_6 : decode cFi_mode 6 = .ok (.iand, 1) := by decide +kernel
theorem dFi_mode_7 : decode cFi_mode 7 = .ok (.ireturn, 1) := by decide +kernel
theorem dFi_size_0 : decode cFi_size 0 = .ok (.lload_n 0, 1) := by decide +kernel
theorem dFi_size_1 : decode cFi_size 1 = .ok (.iconst 3, 1) := by decide +kernel
theorem dFi_size_2 : decode cFi_size 2 = .ok (.lushr, 1) := by decide +kernel
theorem dFi_size_3 : decode cFi_size 3 = .ok (.l2i, 1) := by decide +kernel
theorem dFi_size_4 : decode cFi_size 4 = .ok (.iconst 3, 1) := by decide +kernel
theorem dFi_size_5 : decode cFi_size 5 = .ok (.iand, 1) := by decide +kernel
theorem dFi_size_6 : decode cFi_size 6 = .ok (.tableswitch 32 0 2 #[26, 28, 30], 26) := by decide +kernel
theorem dFi_size_32 : decode cFi_size 32 = .ok (.iconst 4, 1) := by decide +kernel
theorem dFi_size_33 : decode cFi_size 33 = .ok (.ireturn, 1) := by decide +kernel
theorem dFi_size_34 : decode cFi_size 34 = .ok (.iconst 2, 1) := by decide +kernel
theorem dFi_size_35 : decode cFi_size 35 = .ok (.ireturn, 1) := by decide +kernel
theorem dFi_size_36 : decode cFi_size 36 = .ok (.iconst 1, 1) := by decide +kernel
theorem dFi_size_37 : decode cFi_size 37 = .ok (.ireturn, 1) := by decide +kernel
theorem dFi_size_38 : decode cFi_size 38 = .ok (.bipush 8, 2) := by decide +kernel
theorem dFi_size_40 : decode cFi_size 40 = .ok (.ireturn, 1) := by decide +kernel
theorem dFi_target_0 : decode cFi_target 0 = .ok (.lload_n 0, 1) := by decide +kernel
theorem dFi_target_1 : decode cFi_target 1 = .ok (.bipush 8, 2) := by decide +kernel
theorem dFi_target_3 : decode cFi_target 3 = .ok (.lushr, 1) := by decide +kernel
theorem dFi_target_4 : decode cFi_target 4 = .ok (.l2i, 1) := by decide +kernel
theorem dFi_target_5 : decode cFi_target 5 = .ok (.bipush 15, 2) := by decide +kernel
theorem dFi_target_7 : decode cFi_target 7 = .ok (.iand, 1) := by decide +kernel
theorem dFi_target_8 : decode cFi_target 8 = .ok (.ireturn, 1) := by decide +kernel
theorem dFi_source_0 : decode cFi_source 0 = .ok (.lload_n 0, 1) := by decide +kernel
theorem dFi_source_1 : decode cFi_source 1 = .ok (.bipush 12, 2) := by decide +kernel
theorem dFi_source_3 : decode cFi_source 3 = .ok (.lushr, 1) := by decide +kernel
theorem dFi_source_4 : decode cFi_source 4 = .ok (.l2i, 1) := by decide +kernel
theorem dFi_source_5 : decode cFi_source 5 = .ok (.bipush 15, 2) := by decide +kernel
theorem dFi_source_7 : decode cFi_source 7 = .ok (.iand, 1) := by decide +kernel
theorem dFi_source_8 : decode cFi_source 8 = .ok (.ireturn, 1) := by decide +kernel
theorem dFi_offset_0 : decode cFi_offset 0 = .ok (.lload_n 0, 1) := by decide +kernel
theorem dFi_offset_1 : decode cFi_offset 1 = .ok (.bipush 16, 2) := by decide +kernel
theorem dFi_offset_3 : decode cFi_offset 3 = .ok (.lushr, 1) := by decide +kernel
theorem dFi_offset_4 : decode cFi_offset 4 = .ok (.l2i, 1) := by decide +kernel
theorem dFi_offset_5 : decode cFi_offset 5 = .ok (.i2s, 1) := by decide +kernel
theorem dFi_offset_6 : decode cFi_offset 6 = .ok (.ireturn, 1) := by decide +kernel
theorem dFi_immediate_0 : decode cFi_immediate 0 = .ok (.lload_n 0, 1) := by decide +kernel
theorem dFi_immediate_1 : decode cFi_immediate 1 = .ok (.bipush 32, 2) := by decide +kernel
theorem dFi_immediate_3 : decode cFi_immediate 3 = .ok (.lushr, 1) := by decide +kernel
theorem dFi_immediate_4 : decode cFi_immediate 4 = .ok (.l2i, 1) := by decide +kernel
theorem dFi_immediate_5 : decode cFi_immediate 5 = .ok (.ireturn, 1) := by decide +kernel
theorem dFi_isTwoPlaces_0 : decode cFi_isTwoPlaces 0 = .ok (.lload_n 0, 1) := by decide +kernel
theorem dFi_isTwoPlaces_1 : decode cFi_isTwoPlaces 1 = .ok (.invokestatic 9, 3) := by decide +kernel
theorem dFi_isTwoPlaces_4 : decode cFi_isTwoPlaces 4 = .ok (.bipush 24, 2) := by decide +kernel
theorem dFi_isTwoPlaces_6 : decode cFi_isTwoPlaces 6 = .ok (.if_icmp .ne 7, 3) := by decide +kernel
theorem dFi_isTwoPlaces_9 : decode cFi_isTwoPlaces 9 = .ok (.iconst 1, 1) := by decide +kernel
theorem dFi_isTwoPlaces_10 : decode cFi_isTwoPlaces 10 = .ok (.goto 4, 3) := by decide +kernel
theorem dFi_isTwoPlaces_13 : decode cFi_isTwoPlaces 13 = .ok (.iconst 0, 1) := by decide +kernel
theorem dFi_isTwoPlaces_14 : decode cFi_isTwoPlaces 14 = .ok (.ireturn, 1) := by decide +kernel
theorem dFi_isExit_0 : decode cFi_isExit 0 = .ok (.lload_n 0, 1) := by decide +kernel
theorem dFi_isExit_1 : decode cFi_isExit 1 = .ok (.invokestatic 9, 3) := by decide +kernel
theorem dFi_isExit_4 : decode cFi_isExit 4 = .ok (.sipush 149, 3) := by decide +kernel
theorem dFi_isExit_7 : decode cFi_isExit 7 = .ok (.if_icmp .ne 7, 3) := by decide +kernel
theorem dFi_isExit_10 : decode cFi_isExit 10 = .ok (.iconst 1, 1) := by decide +kernel
theorem dFi_isExit_11 : decode cFi_isExit 11 = .ok (.goto 4, 3) := by decide +kernel
theorem dFi_isExit_14 : decode cFi_isExit 14 = .ok (.iconst 0, 1) := by decide +kernel
theorem dFi_isExit_15 : decode cFi_isExit 15 = .ok (.ireturn, 1) := by decide +kernel
theorem dFi_isCall_0 : decode cFi_isCall 0 = .ok (.lload_n 0, 1) := by decide +kernel
theorem dFi_isCall_1 : decode cFi_isCall 1 = .ok (.invokestatic 9, 3) := by decide +kernel
theorem dFi_isCall_4 : decode cFi_isCall 4 = .ok (.sipush 133, 3) := by decide +kernel
theorem dFi_isCall_7 : decode cFi_isCall 7 = .ok (.if_icmp .ne 7, 3) := by decide +kernel
theorem dFi_isCall_10 : decode cFi_isCall 10 = .ok (.iconst 1, 1) := by decide +kernel
theorem dFi_isCall_11 : decode cFi_isCall 11 = .ok (.goto 4, 3) := by decide +kernel
theorem dFi_isCall_14 : decode cFi_isCall 14 = .ok (.iconst 0, 1) := by decide +kernel
theorem dFi_isCall_15 : decode cFi_isCall 15 = .ok (.ireturn, 1) := by decide +kernel
theorem dFi_jumpsAlways_0 : decode cFi_jumpsAlways 0 = .ok (.lload_n 0, 1) := by decide +kernel
theorem dFi_jumpsAlways_1 : decode cFi_jumpsAlways 1 = .ok (.invokestatic 9, 3) := by decide +kernel
theorem dFi_jumpsAlways_4 : decode cFi_jumpsAlways 4 = .ok (.iconst 5, 1) := by decide +kernel
theorem dFi_jumpsAlways_5 : decode cFi_jumpsAlways 5 = .ok (.if_icmp .eq 12, 3) := by decide +kernel
theorem dFi_jumpsAlways_8 : decode cFi_jumpsAlways 8 = .ok (.lload_n 0, 1) := by decide +kernel
theorem dFi_jumpsAlways_9 : decode cFi_jumpsAlways 9 = .ok (.invokestatic 9, 3) := by decide +kernel
theorem dFi_jumpsAlways_12 : decode cFi_jumpsAlways 12 = .ok (.bipush 6, 2) := by decide +kernel
theorem dFi_jumpsAlways_14 : decode cFi_jumpsAlways 14 = .ok (.if_icmp .ne 7, 3) := by decide +kernel
theorem dFi_jumpsAlways_17 : decode cFi_jumpsAlways 17 = .ok (.iconst 1, 1) := by decide +kernel
theorem dFi_jumpsAlways_18 : decode cFi_jumpsAlways 18 = .ok (.goto 4, 3) := by decide +kernel
theorem dFi_jumpsAlways_21 : decode cFi_jumpsAlways 21 = .ok (.iconst 0, 1) := by decide +kernel
theorem dFi_jumpsAlways_22 : decode cFi_jumpsAlways 22 = .ok (.ireturn, 1) := by decide +kernel
theorem dFi_jumpsPerhaps_0 : decode cFi_jumpsPerhaps 0 = .ok (.lload_n 0, 1) := by decide +kernel
theorem dFi_jumpsPerhaps_1 : decode cFi_jumpsPerhaps 1 = .ok (.invokestatic 15, 3) := by decide +kernel
theorem dFi_jumpsPerhaps_4 : decode cFi_jumpsPerhaps 4 = .ok (.istore_n 2, 1) := by decide +kernel
theorem dFi_jumpsPerhaps_5 : decode cFi_jumpsPerhaps 5 = .ok (.lload_n 0, 1) := by decide +kernel
theorem dFi_jumpsPerhaps_6 : decode cFi_jumpsPerhaps 6 = .ok (.invokestatic 18, 3) := by decide +kernel
theorem dFi_jumpsPerhaps_9 : decode cFi_jumpsPerhaps 9 = .ok (.iconst 5, 1) := by decide +kernel
theorem dFi_jumpsPerhaps_10 : decode cFi_jumpsPerhaps 10 = .ok (.if_icmp .eq 12, 3) := by decide +kernel
theorem dFi_jumpsPerhaps_13 : decode cFi_jumpsPerhaps 13 = .ok (.lload_n 0, 1) := by decide +kernel
theorem dFi_jumpsPerhaps_14 : decode cFi_jumpsPerhaps 14 = .ok (.invokestatic 18, 3) := by decide +kernel
theorem dFi_jumpsPerhaps_17 : decode cFi_jumpsPerhaps 17 = .ok (.bipush 6, 2) := by decide +kernel
theorem dFi_jumpsPerhaps_19 : decode cFi_jumpsPerhaps 19 = .ok (.if_icmp .ne 7, 3) := by decide +kernel
theorem dFi_jumpsPerhaps_22 : decode cFi_jumpsPerhaps 22 = .ok (.iconst 1, 1) := by decide +kernel
theorem dFi_jumpsPerhaps_23 : decode cFi_jumpsPerhaps 23 = .ok (.goto 4, 3) := by decide +kernel
theorem dFi_jumpsPerhaps_26 : decode cFi_jumpsPerhaps 26 = .ok (.iconst 0, 1) := by decide +kernel
theorem dFi_jumpsPerhaps_27 : decode cFi_jumpsPerhaps 27 = .ok (.istore_n 3, 1) := by decide +kernel
theorem dFi_jumpsPerhaps_28 : decode cFi_jumpsPerhaps 28 = .ok (.iload_n 3, 1) := by decide +kernel
theorem dFi_jumpsPerhaps_29 : decode cFi_jumpsPerhaps 29 = .ok (.ifCond .eq 30, 3) := by decide +kernel
theorem dFi_jumpsPerhaps_32 : decode cFi_jumpsPerhaps 32 = .ok (.iload_n 2, 1) := by decide +kernel
theorem dFi_jumpsPerhaps_33 : decode cFi_jumpsPerhaps 33 = .ok (.iconst 1, 1) := by decide +kernel
theorem dFi_jumpsPerhaps_34 : decode cFi_jumpsPerhaps 34 = .ok (.if_icmp .lt 9, 3) := by decide +kernel
theorem dFi_jumpsPerhaps_37 : decode cFi_jumpsPerhaps 37 = .ok (.iload_n 2, 1) := by decide +kernel
theorem dFi_jumpsPerhaps_38 : decode cFi_jumpsPerhaps 38 = .ok (.bipush 7, 2) := by decide +kernel
theorem dFi_jumpsPerhaps_40 : decode cFi_jumpsPerhaps 40 = .ok (.if_icmp .le 15, 3) := by decide +kernel
theorem dFi_jumpsPerhaps_43 : decode cFi_jumpsPerhaps 43 = .ok (.iload_n 2, 1) := by decide +kernel
theorem dFi_jumpsPerhaps_44 : decode cFi_jumpsPerhaps 44 = .ok (.bipush 10, 2) := by decide +kernel
theorem dFi_jumpsPerhaps_46 : decode cFi_jumpsPerhaps 46 = .ok (.if_icmp .lt 13, 3) := by decide +kernel
theorem dFi_jumpsPerhaps_49 : decode cFi_jumpsPerhaps 49 = .ok (.iload_n 2, 1) := by decide +kernel
theorem dFi_jumpsPerhaps_50 : decode cFi_jumpsPerhaps 50 = .ok (.bipush 13, 2) := by decide +kernel
theorem dFi_jumpsPerhaps_52 : decode cFi_jumpsPerhaps 52 = .ok (.if_icmp .gt 7, 3) := by decide +kernel
theorem dFi_jumpsPerhaps_55 : decode cFi_jumpsPerhaps 55 = .ok (.iconst 1, 1) := by decide +kernel
theorem dFi_jumpsPerhaps_56 : decode cFi_jumpsPerhaps 56 = .ok (.goto 4, 3) := by decide +kernel
theorem dFi_jumpsPerhaps_59 : decode cFi_jumpsPerhaps 59 = .ok (.iconst 0, 1) := by decide +kernel
theorem dFi_jumpsPerhaps_60 : decode cFi_jumpsPerhaps 60 = .ok (.ireturn, 1) := by decide +kernel
theorem dFi_jumpFrom_0 : decode cFi_jumpFrom 0 = .ok (.iload_n 0, 1) := by decide +kernel
theorem dFi_jumpFrom_1 : decode cFi_jumpFrom 1 = .ok (.i2l, 1) := by decide +kernel
theorem dFi_jumpFrom_2 : decode cFi_jumpFrom 2 = .ok (.lconst 1, 1) := by decide +kernel
theorem dFi_jumpFrom_3 : decode cFi_jumpFrom 3 = .ok (.ladd, 1) := by decide +kernel
theorem dFi_jumpFrom_4 : decode cFi_jumpFrom 4 = .ok (.lload_n 1, 1) := by decide +kernel
theorem dFi_jumpFrom_5 : decode cFi_jumpFrom 5 = .ok (.invokestatic 9, 3) := by decide +kernel
theorem dFi_jumpFrom_8 : decode cFi_jumpFrom 8 = .ok (.bipush 6, 2) := by decide +kernel
theorem dFi_jumpFrom_10 : decode cFi_jumpFrom 10 = .ok (.if_icmp .ne 10, 3) := by decide +kernel
theorem dFi_jumpFrom_13 : decode cFi_jumpFrom 13 = .ok (.lload_n 1, 1) := by decide +kernel
theorem dFi_jumpFrom_14 : decode cFi_jumpFrom 14 = .ok (.invokestatic 21, 3) := by decide +kernel
theorem dFi_jumpFrom_17 : decode cFi_jumpFrom 17 = .ok (.goto 7, 3) := by decide +kernel
theorem dFi_jumpFrom_20 : decode cFi_jumpFrom 20 = .ok (.lload_n 1, 1) := by decide +kernel
theorem dFi_jumpFrom_21 : decode cFi_jumpFrom 21 = .ok (.invokestatic 24, 3) := by decide +kernel
theorem dFi_jumpFrom_24 : decode cFi_jumpFrom 24 = .ok (.i2l, 1) := by decide +kernel
theorem dFi_jumpFrom_25 : decode cFi_jumpFrom 25 = .ok (.ladd, 1) := by decide +kernel
theorem dFi_jumpFrom_26 : decode cFi_jumpFrom 26 = .ok (.lreturn, 1) := by decide +kernel
