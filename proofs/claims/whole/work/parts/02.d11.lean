theorem dX10_thingCame_50 : decode cX10_thingCame 50 = .ok (.invokestatic 74, 3) := by decide +kernel
theorem dX10_thingCame_53 : decode cX10_thingCame 53 = .ok (.ifCond .eq 30, 3) := by decide +kernel
theorem dX10_thingCame_56 : decode cX10_thingCame 56 = .ok (.iconst 1, 1) := by decide +kernel
theorem dX10_thingCame_57 : decode cX10_thingCame 57 = .ok (.iload 4, 2) := by decide +kernel
theorem dX10_thingCame_59 : decode cX10_thingCame 59 = .ok (.invokestatic 74, 3) := by decide +kernel
theorem dX10_thingCame_62 : decode cX10_thingCame 62 = .ok (.ifCond .eq 21, 3) := by decide +kernel
theorem dX10_thingCame_65 : decode cX10_thingCame 65 = .ok (.iconst 2, 1) := by decide +kernel
theorem dX10_thingCame_66 : decode cX10_thingCame 66 = .ok (.iload 5, 2) := by decide +kernel
theorem dX10_thingCame_68 : decode cX10_thingCame 68 = .ok (.invokestatic 74, 3) := by decide +kernel
theorem dX10_thingCame_71 : decode cX10_thingCame 71 = .ok (.ifCond .eq 12, 3) := by decide +kernel
theorem dX10_thingCame_74 : decode cX10_thingCame 74 = .ok (.iconst 3, 1) := by decide +kernel
theorem dX10_thingCame_75 : decode cX10_thingCame 75 = .ok (.iload 6, 2) := by decide +kernel
theorem dX10_thingCame_77 : decode cX10_thingCame 77 = .ok (.invokestatic 74, 3) := by decide +kernel
theorem dX10_thingCame_80 : decode cX10_thingCame 80 = .ok (.ifCond .ne 5, 3) := by decide +kernel
theorem dX10_thingCame_83 : decode cX10_thingCame 83 = .ok (.iconst 0, 1) := by decide +kernel
theorem dX10_thingCame_84 : decode cX10_thingCame 84 = .ok (.ireturn, 1) := by decide +kernel
theorem dX10_thingCame_85 : decode cX10_thingCame 85 = .ok (.aload_n 0, 1) := by decide +kernel
theorem dX10_thingCame_86 : decode cX10_thingCame 86 = .ok (.getfield 10, 3) := by decide +kernel
theorem dX10_thingCame_89 : decode cX10_thingCame 89 = .ok (.iload_n 3, 1) := by decide +kernel
theorem dX10_thingCame_90 : decode cX10_thingCame 90 = .ok (.iload 4, 2) := by decide +kernel
theorem dX10_thingCame_92 : decode cX10_thingCame 92 = .ok (.iload 5, 2) := by decide +kernel
theorem dX10_thingCame_94 : decode cX10_thingCame 94 = .ok (.iload 6, 2) := by decide +kernel
theorem dX10_thingCame_96 : decode cX10_thingCame 96 = .ok (.invokevirtual 78, 3) := by decide +kernel
theorem dX10_thingCame_99 : decode cX10_thingCame 99 = .ok (.ifCond .lt 7, 3) := by decide +kernel
theorem dX10_thingCame_102 : decode cX10_thingCame 102 = .ok (.iconst 1, 1) := by decide +kernel
theorem dX10_thingCame_103 : decode cX10_thingCame 103 = .ok (.goto 4, 3) := by decide +kernel
theorem dX10_thingCame_106 : decode cX10_thingCame 106 = .ok (.iconst 0, 1) := by decide +kernel
theorem dX10_thingCame_107 : decode cX10_thingCame 107 = .ok (.ireturn, 1) := by decide +kernel
theorem dX10_firstUntrue_0 : decode cX10_firstUntrue 0 = .ok (.iconst 0, 1) := by decide +kernel
theorem dX10_firstUntrue_1 : decode cX10_firstUntrue 1 = .ok (.istore_n 2, 1) := by decide +kernel
theorem dX10_firstUntrue_2 : decode cX10_firstUntrue 2 = .ok (.iload_n 2, 1) := by decide +kernel
theorem dX10_firstUntrue_3 : decode cX10_firstUntrue 3 = .ok (.bipush 60, 2) := by decide +kernel
theorem dX10_firstUntrue_5 : decode cX10_firstUntrue 5 = .ok (.if_icmp .gt 101, 3) := by decide +kernel
theorem dX10_firstUntrue_8 : decode cX10_firstUntrue 8 = .ok (.iload_n 2, 1) := by decide +kernel
theorem dX10_firstUntrue_9 : decode cX10_firstUntrue 9 = .ok (.aload_n 1, 1) := by decide +kernel
theorem dX10_firstUntrue_10 : decode cX10_firstUntrue 10 = .ok (.getfield 136, 3) := by decide +kernel
theorem dX10_firstUntrue_13 : decode cX10_firstUntrue 13 = .ok (.if_icmp .ge 13, 3) := by decide +kernel
theorem dX10_firstUntrue_16 : decode cX10_firstUntrue 16 = .ok (.iload_n 2, 1) := by decide +kernel
theorem dX10_firstUntrue_17 : decode cX10_firstUntrue 17 = .ok (.bipush 8, 2) := by decide +kernel
theorem dX10_firstUntrue_19 : decode cX10_firstUntrue 19 = .ok (.if_icmp .ge 7, 3) := by decide +kernel
theorem dX10_firstUntrue_22 : decode cX10_firstUntrue 22 = .ok (.iconst 1, 1) := by decide +kernel
theorem dX10_firstUntrue_23 : decode cX10_firstUntrue 23 = .ok (.goto 4, 3) := by decide +kernel
theorem dX10_firstUntrue_26 : decode cX10_firstUntrue 26 = .ok (.iconst 0, 1) := by decide +kernel
theorem dX10_firstUntrue_27 : decode cX10_firstUntrue 27 = .ok (.istore_n 3, 1) := by decide +kernel
theorem dX10_firstUntrue_28 : decode cX10_firstUntrue 28 = .ok (.iload_n 3, 1) := by decide +kernel
theorem dX10_firstUntrue_29 : decode cX10_firstUntrue 29 = .ok (.ifCond .ne 20, 3) := by decide +kernel
theorem dX10_firstUntrue_32 : decode cX10_firstUntrue 32 = .ok (.iconst 2, 1) := by decide +kernel
theorem dX10_firstUntrue_33 : decode cX10_firstUntrue 33 = .ok (.iload_n 2, 1) := by decide +kernel
theorem dX10_firstUntrue_34 : decode cX10_firstUntrue 34 = .ok (.imul, 1) := by decide +kernel
theorem dX10_firstUntrue_35 : decode cX10_firstUntrue 35 = .ok (.aload_n 0, 1) := by decide +kernel
theorem dX10_firstUntrue_36 : decode cX10_firstUntrue 36 = .ok (.getfield 333, 3) := by decide +kernel
theorem dX10_firstUntrue_39 : decode cX10_firstUntrue 39 = .ok (.if_icmp .lt 8, 3) := by decide +kernel
theorem dX10_firstUntrue_42 : decode cX10_firstUntrue 42 = .ok (.bipush (-2), 2) := by decide +kernel
theorem dX10_firstUntrue_44 : decode cX10_firstUntrue 44 = .ok (.goto 4, 3) := by decide +kernel
theorem dX10_firstUntrue_47 : decode cX10_firstUntrue 47 = .ok (.iload_n 2, 1) := by decide +kernel
theorem dX10_firstUntrue_48 : decode cX10_firstUntrue 48 = .ok (.ireturn, 1) := by decide +kernel
theorem dX10_firstUntrue_49 : decode cX10_firstUntrue 49 = .ok (.aload_n 0, 1) := by decide +kernel
theorem dX10_firstUntrue_50 : decode cX10_firstUntrue 50 = .ok (.iconst 2, 1) := by decide +kernel
theorem dX10_firstUntrue_51 : decode cX10_firstUntrue 51 = .ok (.iload_n 2, 1) := by decide +kernel
theorem dX10_firstUntrue_52 : decode cX10_firstUntrue 52 = .ok (.imul, 1) := by decide +kernel
theorem dX10_firstUntrue_53 : decode cX10_firstUntrue 53 = .ok (.iconst 2, 1) := by decide +kernel
theorem dX10_firstUntrue_54 : decode cX10_firstUntrue 54 = .ok (.invokevirtual 308, 3) := by decide +kernel
theorem dX10_firstUntrue_57 : decode cX10_firstUntrue 57 = .ok (.ifCond .eq 41, 3) := by decide +kernel
theorem dX10_firstUntrue_60 : decode cX10_firstUntrue 60 = .ok (.aload_n 0, 1) := by decide +kernel
theorem dX10_firstUntrue_61 : decode cX10_firstUntrue 61 = .ok (.iconst 2, 1) := by decide +kernel
theorem dX10_firstUntrue_62 : decode cX10_firstUntrue 62 = .ok (.iload_n 2, 1) := by decide +kernel
theorem dX10_firstUntrue_63 : decode cX10_firstUntrue 63 = .ok (.imul, 1) := by decide +kernel
theorem dX10_firstUntrue_64 : decode cX10_firstUntrue 64 = .ok (.invokevirtual 302, 3) := by decide +kernel
theorem dX10_firstUntrue_67 : decode cX10_firstUntrue 67 = .ok (.aload_n 1, 1) := by decide +kernel
theorem dX10_firstUntrue_68 : decode cX10_firstUntrue 68 = .ok (.getfield 148, 3) := by decide +kernel
theorem dX10_firstUntrue_71 : decode cX10_firstUntrue 71 = .ok (.iload_n 2, 1) := by decide +kernel
theorem dX10_firstUntrue_72 : decode cX10_firstUntrue 72 = .ok (.iaload, 1) := by decide +kernel
theorem dX10_firstUntrue_73 : decode cX10_firstUntrue 73 = .ok (.i2l, 1) := by decide +kernel
theorem dX10_firstUntrue_74 : decode cX10_firstUntrue 74 = .ok (.lcmp, 1) := by decide +kernel
theorem dX10_firstUntrue_75 : decode cX10_firstUntrue 75 = .ok (.ifCond .ne 23, 3) := by decide +kernel
theorem dX10_firstUntrue_78 : decode cX10_firstUntrue 78 = .ok (.aload_n 0, 1) := by decide +kernel
theorem dX10_firstUntrue_79 : decode cX10_firstUntrue 79 = .ok (.iconst 2, 1) := by decide +kernel
theorem dX10_firstUntrue_80 : decode cX10_firstUntrue 80 = .ok (.iload_n 2, 1) := by decide +kernel
theorem dX10_firstUntrue_81 : decode cX10_firstUntrue 81 = .ok (.imul, 1) := by decide +kernel
theorem dX10_firstUntrue_82 : decode cX10_firstUntrue 82 = .ok (.iconst 1, 1) := by decide +kernel
theorem dX10_firstUntrue_83 : decode cX10_firstUntrue 83 = .ok (.iadd, 1) := by decide +kernel
theorem dX10_firstUntrue_84 : decode cX10_firstUntrue 84 = .ok (.invokevirtual 302, 3) := by decide +kernel
theorem dX10_firstUntrue_87 : decode cX10_firstUntrue 87 = .ok (.aload_n 1, 1) := by decide +kernel
theorem dX10_firstUntrue_88 : decode cX10_firstUntrue 88 = .ok (.getfield 155, 3) := by decide +kernel
theorem dX10_firstUntrue_91 : decode cX10_firstUntrue 91 = .ok (.iload_n 2, 1) := by decide +kernel
theorem dX10_firstUntrue_92 : decode cX10_firstUntrue 92 = .ok (.iaload, 1) := by decide +kernel
theorem dX10_firstUntrue_93 : decode cX10_firstUntrue 93 = .ok (.i2l, 1) := by decide +kernel
theorem dX10_firstUntrue_94 : decode cX10_firstUntrue 94 = .ok (.lcmp, 1) := by decide +kernel
theorem dX10_firstUntrue_95 : decode cX10_firstUntrue 95 = .ok (.ifCond .eq 5, 3) := by decide +kernel
theorem dX10_firstUntrue_98 : decode cX10_firstUntrue 98 = .ok (.iload_n 2, 1) := by decide +kernel
theorem dX10_firstUntrue_99 : decode cX10_firstUntrue 99 = .ok (.ireturn, 1) := by decide +kernel
theorem dX10_firstUntrue_100 : decode cX10_firstUntrue 100 = .ok (.iinc 2 1, 3) := by decide +kernel
theorem dX10_firstUntrue_103 : decode cX10_firstUntrue 103 = .ok (.goto (-101), 3) := by decide +kernel
theorem dX10_firstUntrue_106 : decode cX10_firstUntrue 106 = .ok (.bipush (-2), 2) := by decide +kernel
theorem dX10_firstUntrue_108 : decode cX10_firstUntrue 108 = .ok (.ireturn, 1) := by decide +kernel
