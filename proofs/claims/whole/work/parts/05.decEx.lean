theorem dEx_isKnown_0 : decode cEx_isKnown 0 = .ok (.iload_n 0, 1) := by decide +kernel
theorem dEx_isKnown_1 : decode cEx_isKnown 1 = .ok (.lookupswitch 77 #[(0, 75), (1, 75), (64, 75), (65, 75), (80, 75), (81, 75), (160, 75), (161, 75)], 75) := by decide +kernel
theorem dEx_isKnown_76 : decode cEx_isKnown 76 = .ok (.iconst 1, 1) := by decide +kernel
theorem dEx_isKnown_77 : decode cEx_isKnown 77 = .ok (.ireturn, 1) := by decide +kernel
theorem dEx_isKnown_78 : decode cEx_isKnown 78 = .ok (.iload_n 0, 1) := by decide +kernel
theorem dEx_isKnown_79 : decode cEx_isKnown 79 = .ok (.sipush 225, 3) := by decide +kernel
theorem dEx_isKnown_82 : decode cEx_isKnown 82 = .ok (.if_icmp .eq 10, 3) := by decide +kernel
theorem dEx_isKnown_85 : decode cEx_isKnown 85 = .ok (.iload_n 0, 1) := by decide +kernel
theorem dEx_isKnown_86 : decode cEx_isKnown 86 = .ok (.sipush 241, 3) := by decide +kernel
theorem dEx_isKnown_89 : decode cEx_isKnown 89 = .ok (.if_icmp .ne 7, 3) := by decide +kernel
theorem dEx_isKnown_92 : decode cEx_isKnown 92 = .ok (.iconst 1, 1) := by decide +kernel
theorem dEx_isKnown_93 : decode cEx_isKnown 93 = .ok (.goto 4, 3) := by decide +kernel
theorem dEx_isKnown_96 : decode cEx_isKnown 96 = .ok (.iconst 0, 1) := by decide +kernel
theorem dEx_isKnown_97 : decode cEx_isKnown 97 = .ok (.ireturn, 1) := by decide +kernel
theorem dEx_changesSource_0 : decode cEx_changesSource 0 = .ok (.iload_n 0, 1) := by decide +kernel
theorem dEx_changesSource_1 : decode cEx_changesSource 1 = .ok (.iconst 1, 1) := by decide +kernel
theorem dEx_changesSource_2 : decode cEx_changesSource 2 = .ok (.iand, 1) := by decide +kernel
theorem dEx_changesSource_3 : decode cEx_changesSource 3 = .ok (.iconst 1, 1) := by decide +kernel
theorem dEx_changesSource_4 : decode cEx_changesSource 4 = .ok (.if_icmp .ne 14, 3) := by decide +kernel
theorem dEx_changesSource_7 : decode cEx_changesSource 7 = .ok (.iload_n 0, 1) := by decide +kernel
theorem dEx_changesSource_8 : decode cEx_changesSource 8 = .ok (.sipush 241, 3) := by decide +kernel
theorem dEx_changesSource_11 : decode cEx_changesSource 11 = .ok (.if_icmp .eq 7, 3) := by decide +kernel
theorem dEx_changesSource_14 : decode cEx_changesSource 14 = .ok (.iconst 1, 1) := by decide +kernel
theorem dEx_changesSource_15 : decode cEx_changesSource 15 = .ok (.goto 4, 3) := by decide +kernel
theorem dEx_changesSource_18 : decode cEx_changesSource 18 = .ok (.iconst 0, 1) := by decide +kernel
theorem dEx_changesSource_19 : decode cEx_changesSource 19 = .ok (.ireturn, 1) := by decide +kernel
theorem dEx_become_0 : decode cEx_become 0 = .ok (.iload_n 0, 1) := by decide +kernel
theorem dEx_become_1 : decode cEx_become 1 = .ok (.lookupswitch 101 #[(0, 83), (1, 83), (64, 87), (65, 87), (80, 91), (81, 91), (160, 95), (161, 95), (225, 99)], 83) := by decide +kernel
theorem dEx_become_84 : decode cEx_become 84 = .ok (.lload_n 1, 1) := by decide +kernel
theorem dEx_become_85 : decode cEx_become 85 = .ok (.lload_n 3, 1) := by decide +kernel
theorem dEx_become_86 : decode cEx_become 86 = .ok (.ladd, 1) := by decide +kernel
theorem dEx_become_87 : decode cEx_become 87 = .ok (.lreturn, 1) := by decide +kernel
theorem dEx_become_88 : decode cEx_become 88 = .ok (.lload_n 1, 1) := by decide +kernel
theorem dEx_become_89 : decode cEx_become 89 = .ok (.lload_n 3, 1) := by decide +kernel
theorem dEx_become_90 : decode cEx_become 90 = .ok (.lor, 1) := by decide +kernel
theorem dEx_become_91 : decode cEx_become 91 = .ok (.lreturn, 1) := by decide +kernel
theorem dEx_become_92 : decode cEx_become 92 = .ok (.lload_n 1, 1) := by decide +kernel
theorem dEx_become_93 : decode cEx_become 93 = .ok (.lload_n 3, 1) := by decide +kernel
theorem dEx_become_94 : decode cEx_become 94 = .ok (.land, 1) := by decide +kernel
theorem dEx_become_95 : decode cEx_become 95 = .ok (.lreturn, 1) := by decide +kernel
theorem dEx_become_96 : decode cEx_become 96 = .ok (.lload_n 1, 1) := by decide +kernel
theorem dEx_become_97 : decode cEx_become 97 = .ok (.lload_n 3, 1) := by decide +kernel
theorem dEx_become_98 : decode cEx_become 98 = .ok (.lxor, 1) := by decide +kernel
theorem dEx_become_99 : decode cEx_become 99 = .ok (.lreturn, 1) := by decide +kernel
theorem dEx_become_100 : decode cEx_become 100 = .ok (.lload_n 3, 1) := by decide +kernel
theorem dEx_become_101 : decode cEx_become 101 = .ok (.lreturn, 1) := by decide +kernel
theorem dEx_become_102 : decode cEx_become 102 = .ok (.iload 5, 2) := by decide +kernel
theorem dEx_become_104 : decode cEx_become 104 = .ok (.ifCond .eq 7, 3) := by decide +kernel
theorem dEx_become_107 : decode cEx_become 107 = .ok (.lload_n 3, 1) := by decide +kernel
theorem dEx_become_108 : decode cEx_become 108 = .ok (.goto 4, 3) := by decide +kernel
theorem dEx_become_111 : decode cEx_become 111 = .ok (.lload_n 1, 1) := by decide +kernel
theorem dEx_become_112 : decode cEx_become 112 = .ok (.lreturn, 1) := by decide +kernel
