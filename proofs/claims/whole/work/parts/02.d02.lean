theorem dX3_init_0 : decode cX3_init 0 = .ok (.aload_n 0, 1) := by decide +kernel
theorem dX3_init_1 : decode cX3_init 1 = .ok (.invokespecial 3, 3) := by decide +kernel
theorem dX3_init_4 : decode cX3_init 4 = .ok (.aload_n 0, 1) := by decide +kernel
theorem dX3_init_5 : decode cX3_init 5 = .ok (.bipush 8, 2) := by decide +kernel
theorem dX3_init_7 : decode cX3_init 7 = .ok (.newarray .int, 2) := by decide +kernel
theorem dX3_init_9 : decode cX3_init 9 = .ok (.putfield 9, 3) := by decide +kernel
theorem dX3_init_12 : decode cX3_init 12 = .ok (.aload_n 0, 1) := by decide +kernel
theorem dX3_init_13 : decode cX3_init 13 = .ok (.bipush 8, 2) := by decide +kernel
theorem dX3_init_15 : decode cX3_init 15 = .ok (.newarray .int, 2) := by decide +kernel
theorem dX3_init_17 : decode cX3_init 17 = .ok (.putfield 15, 3) := by decide +kernel
theorem dX3_init_20 : decode cX3_init 20 = .ok (.aload_n 0, 1) := by decide +kernel
theorem dX3_init_21 : decode cX3_init 21 = .ok (.bipush 8, 2) := by decide +kernel
theorem dX3_init_23 : decode cX3_init 23 = .ok (.newarray .int, 2) := by decide +kernel
theorem dX3_init_25 : decode cX3_init 25 = .ok (.putfield 18, 3) := by decide +kernel
theorem dX3_init_28 : decode cX3_init 28 = .ok (.aload_n 0, 1) := by decide +kernel
theorem dX3_init_29 : decode cX3_init 29 = .ok (.aload_n 1, 1) := by decide +kernel
theorem dX3_init_30 : decode cX3_init 30 = .ok (.putfield 21, 3) := by decide +kernel
theorem dX3_init_33 : decode cX3_init 33 = .ok (.return_, 1) := by decide +kernel
theorem dX3_wholeWith_0 : decode cX3_wholeWith 0 = .ok (.aload_n 0, 1) := by decide +kernel
theorem dX3_wholeWith_1 : decode cX3_wholeWith 1 = .ok (.iload_n 1, 1) := by decide +kernel
theorem dX3_wholeWith_2 : decode cX3_wholeWith 2 = .ok (.invokevirtual 25, 3) := by decide +kernel
theorem dX3_wholeWith_5 : decode cX3_wholeWith 5 = .ok (.iconst 0, 1) := by decide +kernel
theorem dX3_wholeWith_6 : decode cX3_wholeWith 6 = .ok (.istore_n 2, 1) := by decide +kernel
theorem dX3_wholeWith_7 : decode cX3_wholeWith 7 = .ok (.iload_n 2, 1) := by decide +kernel
theorem dX3_wholeWith_8 : decode cX3_wholeWith 8 = .ok (.bipush 6, 2) := by decide +kernel
theorem dX3_wholeWith_10 : decode cX3_wholeWith 10 = .ok (.if_icmp .gt 13, 3) := by decide +kernel
theorem dX3_wholeWith_13 : decode cX3_wholeWith 13 = .ok (.aload_n 0, 1) := by decide +kernel
theorem dX3_wholeWith_14 : decode cX3_wholeWith 14 = .ok (.invokevirtual 29, 3) := by decide +kernel
theorem dX3_wholeWith_17 : decode cX3_wholeWith 17 = .ok (.iinc 2 1, 3) := by decide +kernel
theorem dX3_wholeWith_20 : decode cX3_wholeWith 20 = .ok (.goto (-13), 3) := by decide +kernel
theorem dX3_wholeWith_23 : decode cX3_wholeWith 23 = .ok (.return_, 1) := by decide +kernel
theorem dX3_beginWith_0 : decode cX3_beginWith 0 = .ok (.aload_n 0, 1) := by decide +kernel
theorem dX3_beginWith_1 : decode cX3_beginWith 1 = .ok (.iconst 1, 1) := by decide +kernel
theorem dX3_beginWith_2 : decode cX3_beginWith 2 = .ok (.putfield 32, 3) := by decide +kernel
theorem dX3_beginWith_5 : decode cX3_beginWith 5 = .ok (.aload_n 0, 1) := by decide +kernel
theorem dX3_beginWith_6 : decode cX3_beginWith 6 = .ok (.iconst 0, 1) := by decide +kernel
theorem dX3_beginWith_7 : decode cX3_beginWith 7 = .ok (.putfield 36, 3) := by decide +kernel
theorem dX3_beginWith_10 : decode cX3_beginWith 10 = .ok (.aload_n 0, 1) := by decide +kernel
theorem dX3_beginWith_11 : decode cX3_beginWith 11 = .ok (.iload_n 1, 1) := by decide +kernel
theorem dX3_beginWith_12 : decode cX3_beginWith 12 = .ok (.putfield 40, 3) := by decide +kernel
theorem dX3_beginWith_15 : decode cX3_beginWith 15 = .ok (.aload_n 0, 1) := by decide +kernel
theorem dX3_beginWith_16 : decode cX3_beginWith 16 = .ok (.iconst 0, 1) := by decide +kernel
theorem dX3_beginWith_17 : decode cX3_beginWith 17 = .ok (.putfield 43, 3) := by decide +kernel
theorem dX3_beginWith_20 : decode cX3_beginWith 20 = .ok (.aload_n 0, 1) := by decide +kernel
theorem dX3_beginWith_21 : decode cX3_beginWith 21 = .ok (.iconst 0, 1) := by decide +kernel
theorem dX3_beginWith_22 : decode cX3_beginWith 22 = .ok (.putfield 46, 3) := by decide +kernel
theorem dX3_beginWith_25 : decode cX3_beginWith 25 = .ok (.aload_n 0, 1) := by decide +kernel
theorem dX3_beginWith_26 : decode cX3_beginWith 26 = .ok (.iconst 0, 1) := by decide +kernel
theorem dX3_beginWith_27 : decode cX3_beginWith 27 = .ok (.putfield 49, 3) := by decide +kernel
theorem dX3_beginWith_30 : decode cX3_beginWith 30 = .ok (.aload_n 0, 1) := by decide +kernel
theorem dX3_beginWith_31 : decode cX3_beginWith 31 = .ok (.iconst 0, 1) := by decide +kernel
theorem dX3_beginWith_32 : decode cX3_beginWith 32 = .ok (.putfield 52, 3) := by decide +kernel
theorem dX3_beginWith_35 : decode cX3_beginWith 35 = .ok (.aload_n 0, 1) := by decide +kernel
theorem dX3_beginWith_36 : decode cX3_beginWith 36 = .ok (.iconst 0, 1) := by decide +kernel
theorem dX3_beginWith_37 : decode cX3_beginWith 37 = .ok (.putfield 55, 3) := by decide +kernel
theorem dX3_beginWith_40 : decode cX3_beginWith 40 = .ok (.aload_n 0, 1) := by decide +kernel
theorem dX3_beginWith_41 : decode cX3_beginWith 41 = .ok (.iconst 0, 1) := by decide +kernel
theorem dX3_beginWith_42 : decode cX3_beginWith 42 = .ok (.putfield 58, 3) := by decide +kernel
theorem dX3_beginWith_45 : decode cX3_beginWith 45 = .ok (.return_, 1) := by decide +kernel
theorem dX3_driveOn_0 : decode cX3_driveOn 0 = .ok (.aload_n 0, 1) := by decide +kernel
theorem dX3_driveOn_1 : decode cX3_driveOn 1 = .ok (.invokevirtual 61, 3) := by decide +kernel
theorem dX3_driveOn_4 : decode cX3_driveOn 4 = .ok (.istore_n 1, 1) := by decide +kernel
theorem dX3_driveOn_5 : decode cX3_driveOn 5 = .ok (.iconst 2, 1) := by decide +kernel
theorem dX3_driveOn_6 : decode cX3_driveOn 6 = .ok (.aload_n 0, 1) := by decide +kernel
theorem dX3_driveOn_7 : decode cX3_driveOn 7 = .ok (.getfield 21, 3) := by decide +kernel
theorem dX3_driveOn_10 : decode cX3_driveOn 10 = .ok (.aload_n 0, 1) := by decide +kernel
theorem dX3_driveOn_11 : decode cX3_driveOn 11 = .ok (.getfield 36, 3) := by decide +kernel
theorem dX3_driveOn_14 : decode cX3_driveOn 14 = .ok (.invokevirtual 65, 3) := by decide +kernel
theorem dX3_driveOn_17 : decode cX3_driveOn 17 = .ok (.imul, 1) := by decide +kernel
theorem dX3_driveOn_18 : decode cX3_driveOn 18 = .ok (.istore_n 2, 1) := by decide +kernel
theorem dX3_driveOn_19 : decode cX3_driveOn 19 = .ok (.aload_n 0, 1) := by decide +kernel
theorem dX3_driveOn_20 : decode cX3_driveOn 20 = .ok (.getfield 36, 3) := by decide +kernel
theorem dX3_driveOn_23 : decode cX3_driveOn 23 = .ok (.ifCond .ne 11, 3) := by decide +kernel
theorem dX3_driveOn_26 : decode cX3_driveOn 26 = .ok (.aload_n 0, 1) := by decide +kernel
theorem dX3_driveOn_27 : decode cX3_driveOn 27 = .ok (.iload_n 1, 1) := by decide +kernel
theorem dX3_driveOn_28 : decode cX3_driveOn 28 = .ok (.invokevirtual 71, 3) := by decide +kernel
theorem dX3_driveOn_31 : decode cX3_driveOn 31 = .ok (.goto 72, 3) := by decide +kernel
theorem dX3_driveOn_34 : decode cX3_driveOn 34 = .ok (.aload_n 0, 1) := by decide +kernel
theorem dX3_driveOn_35 : decode cX3_driveOn 35 = .ok (.getfield 21, 3) := by decide +kernel
theorem dX3_driveOn_38 : decode cX3_driveOn 38 = .ok (.iload_n 1, 1) := by decide +kernel
theorem dX3_driveOn_39 : decode cX3_driveOn 39 = .ok (.invokevirtual 74, 3) := by decide +kernel
theorem dX3_driveOn_42 : decode cX3_driveOn 42 = .ok (.aload_n 0, 1) := by decide +kernel
theorem dX3_driveOn_43 : decode cX3_driveOn 43 = .ok (.getfield 21, 3) := by decide +kernel
theorem dX3_driveOn_46 : decode cX3_driveOn 46 = .ok (.bipush 7, 2) := by decide +kernel
theorem dX3_driveOn_48 : decode cX3_driveOn 48 = .ok (.iconst 0, 1) := by decide +kernel
theorem dX3_driveOn_49 : decode cX3_driveOn 49 = .ok (.invokevirtual 77, 3) := by decide +kernel
theorem dX3_driveOn_52 : decode cX3_driveOn 52 = .ok (.iload_n 2, 1) := by decide +kernel
theorem dX3_driveOn_53 : decode cX3_driveOn 53 = .ok (.imul, 1) := by decide +kernel
theorem dX3_driveOn_54 : decode cX3_driveOn 54 = .ok (.if_icmp .le 39, 3) := by decide +kernel
theorem dX3_driveOn_57 : decode cX3_driveOn 57 = .ok (.aload_n 0, 1) := by decide +kernel
theorem dX3_driveOn_58 : decode cX3_driveOn 58 = .ok (.dup, 1) := by decide +kernel
theorem dX3_driveOn_59 : decode cX3_driveOn 59 = .ok (.getfield 49, 3) := by decide +kernel
theorem dX3_driveOn_62 : decode cX3_driveOn 62 = .ok (.iload_n 2, 1) := by decide +kernel
theorem dX3_driveOn_63 : decode cX3_driveOn 63 = .ok (.iadd, 1) := by decide +kernel
theorem dX3_driveOn_64 : decode cX3_driveOn 64 = .ok (.putfield 49, 3) := by decide +kernel
theorem dX3_driveOn_67 : decode cX3_driveOn 67 = .ok (.aload_n 0, 1) := by decide +kernel
theorem dX3_driveOn_68 : decode cX3_driveOn 68 = .ok (.dup, 1) := by decide +kernel
theorem dX3_driveOn_69 : decode cX3_driveOn 69 = .ok (.getfield 55, 3) := by decide +kernel
theorem dX3_driveOn_72 : decode cX3_driveOn 72 = .ok (.iconst 1, 1) := by decide +kernel
theorem dX3_driveOn_73 : decode cX3_driveOn 73 = .ok (.iadd, 1) := by decide +kernel
theorem dX3_driveOn_74 : decode cX3_driveOn 74 = .ok (.putfield 55, 3) := by decide +kernel
theorem dX3_driveOn_77 : decode cX3_driveOn 77 = .ok (.aload_n 0, 1) := by decide +kernel
theorem dX3_driveOn_78 : decode cX3_driveOn 78 = .ok (.aload_n 0, 1) := by decide +kernel
theorem dX3_driveOn_79 : decode cX3_driveOn 79 = .ok (.getfield 36, 3) := by decide +kernel
theorem dX3_driveOn_82 : decode cX3_driveOn 82 = .ok (.putfield 58, 3) := by decide +kernel
theorem dX3_driveOn_85 : decode cX3_driveOn 85 = .ok (.aload_n 0, 1) := by decide +kernel
theorem dX3_driveOn_86 : decode cX3_driveOn 86 = .ok (.iload_n 1, 1) := by decide +kernel
theorem dX3_driveOn_87 : decode cX3_driveOn 87 = .ok (.invokevirtual 71, 3) := by decide +kernel
theorem dX3_driveOn_90 : decode cX3_driveOn 90 = .ok (.goto 13, 3) := by decide +kernel
theorem dX3_driveOn_93 : decode cX3_driveOn 93 = .ok (.aload_n 0, 1) := by decide +kernel
theorem dX3_driveOn_94 : decode cX3_driveOn 94 = .ok (.dup, 1) := by decide +kernel
theorem dX3_driveOn_95 : decode cX3_driveOn 95 = .ok (.getfield 46, 3) := by decide +kernel
theorem dX3_driveOn_98 : decode cX3_driveOn 98 = .ok (.iload_n 1, 1) := by decide +kernel
theorem dX3_driveOn_99 : decode cX3_driveOn 99 = .ok (.ior, 1) := by decide +kernel
theorem dX3_driveOn_100 : decode cX3_driveOn 100 = .ok (.putfield 46, 3) := by decide +kernel
theorem dX3_driveOn_103 : decode cX3_driveOn 103 = .ok (.aload_n 0, 1) := by decide +kernel
theorem dX3_driveOn_104 : decode cX3_driveOn 104 = .ok (.getfield 36, 3) := by decide +kernel
theorem dX3_driveOn_107 : decode cX3_driveOn 107 = .ok (.bipush 6, 2) := by decide +kernel
theorem dX3_driveOn_109 : decode cX3_driveOn 109 = .ok (.if_icmp .lt 11, 3) := by decide +kernel
theorem dX3_driveOn_112 : decode cX3_driveOn 112 = .ok (.aload_n 0, 1) := by decide +kernel
theorem dX3_driveOn_113 : decode cX3_driveOn 113 = .ok (.iconst 0, 1) := by decide +kernel
theorem dX3_driveOn_114 : decode cX3_driveOn 114 = .ok (.putfield 32, 3) := by decide +kernel
theorem dX3_driveOn_117 : decode cX3_driveOn 117 = .ok (.goto 35, 3) := by decide +kernel
theorem dX3_driveOn_120 : decode cX3_driveOn 120 = .ok (.aload_n 0, 1) := by decide +kernel
theorem dX3_driveOn_121 : decode cX3_driveOn 121 = .ok (.dup, 1) := by decide +kernel
theorem dX3_driveOn_122 : decode cX3_driveOn 122 = .ok (.getfield 49, 3) := by decide +kernel
theorem dX3_driveOn_125 : decode cX3_driveOn 125 = .ok (.aload_n 0, 1) := by decide +kernel
theorem dX3_driveOn_126 : decode cX3_driveOn 126 = .ok (.getfield 21, 3) := by decide +kernel
theorem dX3_driveOn_129 : decode cX3_driveOn 129 = .ok (.bipush 6, 2) := by decide +kernel
theorem dX3_driveOn_131 : decode cX3_driveOn 131 = .ok (.aload_n 0, 1) := by decide +kernel
theorem dX3_driveOn_132 : decode cX3_driveOn 132 = .ok (.getfield 36, 3) := by decide +kernel
theorem dX3_driveOn_135 : decode cX3_driveOn 135 = .ok (.invokevirtual 77, 3) := by decide +kernel
theorem dX3_driveOn_138 : decode cX3_driveOn 138 = .ok (.iadd, 1) := by decide +kernel
theorem dX3_driveOn_139 : decode cX3_driveOn 139 = .ok (.putfield 49, 3) := by decide +kernel
theorem dX3_driveOn_142 : decode cX3_driveOn 142 = .ok (.aload_n 0, 1) := by decide +kernel
theorem dX3_driveOn_143 : decode cX3_driveOn 143 = .ok (.dup, 1) := by decide +kernel
theorem dX3_driveOn_144 : decode cX3_driveOn 144 = .ok (.getfield 36, 3) := by decide +kernel
theorem dX3_driveOn_147 : decode cX3_driveOn 147 = .ok (.iconst 1, 1) := by decide +kernel
theorem dX3_driveOn_148 : decode cX3_driveOn 148 = .ok (.iadd, 1) := by decide +kernel
theorem dX3_driveOn_149 : decode cX3_driveOn 149 = .ok (.putfield 36, 3) := by decide +kernel
theorem dX3_driveOn_152 : decode cX3_driveOn 152 = .ok (.return_, 1) := by decide +kernel
theorem dX3_cost_0 : decode cX3_cost 0 = .ok (.aload_n 0, 1) := by decide +kernel
theorem dX3_cost_1 : decode cX3_cost 1 = .ok (.getfield 21, 3) := by decide +kernel
theorem dX3_cost_4 : decode cX3_cost 4 = .ok (.bipush 7, 2) := by decide +kernel
theorem dX3_cost_6 : decode cX3_cost 6 = .ok (.iconst 0, 1) := by decide +kernel
theorem dX3_cost_7 : decode cX3_cost 7 = .ok (.invokevirtual 77, 3) := by decide +kernel
theorem dX3_cost_10 : decode cX3_cost 10 = .ok (.aload_n 0, 1) := by decide +kernel
theorem dX3_cost_11 : decode cX3_cost 11 = .ok (.getfield 49, 3) := by decide +kernel
theorem dX3_cost_14 : decode cX3_cost 14 = .ok (.imul, 1) := by decide +kernel
theorem dX3_cost_15 : decode cX3_cost 15 = .ok (.aload_n 0, 1) := by decide +kernel
theorem dX3_cost_16 : decode cX3_cost 16 = .ok (.getfield 21, 3) := by decide +kernel
theorem dX3_cost_19 : decode cX3_cost 19 = .ok (.aload_n 0, 1) := by decide +kernel
theorem dX3_cost_20 : decode cX3_cost 20 = .ok (.getfield 46, 3) := by decide +kernel
theorem dX3_cost_23 : decode cX3_cost 23 = .ok (.invokevirtual 74, 3) := by decide +kernel
theorem dX3_cost_26 : decode cX3_cost 26 = .ok (.iadd, 1) := by decide +kernel
theorem dX3_cost_27 : decode cX3_cost 27 = .ok (.ireturn, 1) := by decide +kernel
theorem dX3_mindedHere_0 : decode cX3_mindedHere 0 = .ok (.iconst 0, 1) := by decide +kernel
theorem dX3_mindedHere_1 : decode cX3_mindedHere 1 = .ok (.istore_n 1, 1) := by decide +kernel
theorem dX3_mindedHere_2 : decode cX3_mindedHere 2 = .ok (.iconst 0, 1) := by decide +kernel
theorem dX3_mindedHere_3 : decode cX3_mindedHere 3 = .ok (.istore_n 2, 1) := by decide +kernel
theorem dX3_mindedHere_4 : decode cX3_mindedHere 4 = .ok (.iload_n 2, 1) := by decide +kernel
theorem dX3_mindedHere_5 : decode cX3_mindedHere 5 = .ok (.bipush 8, 2) := by decide +kernel
theorem dX3_mindedHere_7 : decode cX3_mindedHere 7 = .ok (.if_icmp .ge 31, 3) := by decide +kernel
theorem dX3_mindedHere_10 : decode cX3_mindedHere 10 = .ok (.aload_n 0, 1) := by decide +kernel
theorem dX3_mindedHere_11 : decode cX3_mindedHere 11 = .ok (.getfield 21, 3) := by decide +kernel
theorem dX3_mindedHere_14 : decode cX3_mindedHere 14 = .ok (.iconst 2, 1) := by decide +kernel
theorem dX3_mindedHere_15 : decode cX3_mindedHere 15 = .ok (.iload_n 2, 1) := by decide +kernel
theorem dX3_mindedHere_16 : decode cX3_mindedHere 16 = .ok (.invokevirtual 77, 3) := by decide +kernel
theorem dX3_mindedHere_19 : decode cX3_mindedHere 19 = .ok (.aload_n 0, 1) := by decide +kernel
theorem dX3_mindedHere_20 : decode cX3_mindedHere 20 = .ok (.getfield 36, 3) := by decide +kernel
theorem dX3_mindedHere_23 : decode cX3_mindedHere 23 = .ok (.if_icmp .ne 9, 3) := by decide +kernel
theorem dX3_mindedHere_26 : decode cX3_mindedHere 26 = .ok (.iload_n 1, 1) := by decide +kernel
theorem dX3_mindedHere_27 : decode cX3_mindedHere 27 = .ok (.iconst 1, 1) := by decide +kernel
theorem dX3_mindedHere_28 : decode cX3_mindedHere 28 = .ok (.iload_n 2, 1) := by decide +kernel
theorem dX3_mindedHere_29 : decode cX3_mindedHere 29 = .ok (.ishl, 1) := by decide +kernel
theorem dX3_mindedHere_30 : decode cX3_mindedHere 30 = .ok (.ior, 1) := by decide +kernel
theorem dX3_mindedHere_31 : decode cX3_mindedHere 31 = .ok (.istore_n 1, 1) := by decide +kernel
theorem dX3_mindedHere_32 : decode cX3_mindedHere 32 = .ok (.iinc 2 1, 3) := by decide +kernel
theorem dX3_mindedHere_35 : decode cX3_mindedHere 35 = .ok (.goto (-31), 3) := by decide +kernel
theorem dX3_mindedHere_38 : decode cX3_mindedHere 38 = .ok (.iload_n 1, 1) := by decide +kernel
theorem dX3_mindedHere_39 : decode cX3_mindedHere 39 = .ok (.aload_n 0, 1) := by decide +kernel
theorem dX3_mindedHere_40 : decode cX3_mindedHere 40 = .ok (.invokevirtual 81, 3) := by decide +kernel
theorem dX3_mindedHere_43 : decode cX3_mindedHere 43 = .ok (.iand, 1) := by decide +kernel
theorem dX3_mindedHere_44 : decode cX3_mindedHere 44 = .ok (.ireturn, 1) := by decide +kernel
theorem dX3_open_0 : decode cX3_open 0 = .ok (.aload_n 0, 1) := by decide +kernel
theorem dX3_open_1 : decode cX3_open 1 = .ok (.getfield 40, 3) := by decide +kernel
theorem dX3_open_4 : decode cX3_open 4 = .ok (.aload_n 0, 1) := by decide +kernel
theorem dX3_open_5 : decode cX3_open 5 = .ok (.getfield 43, 3) := by decide +kernel
theorem dX3_open_8 : decode cX3_open 8 = .ok (.iconst (-1), 1) := by decide +kernel
theorem dX3_open_9 : decode cX3_open 9 = .ok (.ixor, 1) := by decide +kernel
theorem dX3_open_10 : decode cX3_open 10 = .ok (.iand, 1) := by decide +kernel
theorem dX3_open_11 : decode cX3_open 11 = .ok (.aload_n 0, 1) := by decide +kernel
theorem dX3_open_12 : decode cX3_open 12 = .ok (.getfield 46, 3) := by decide +kernel
theorem dX3_open_15 : decode cX3_open 15 = .ok (.iconst (-1), 1) := by decide +kernel
theorem dX3_open_16 : decode cX3_open 16 = .ok (.ixor, 1) := by decide +kernel
theorem dX3_open_17 : decode cX3_open 17 = .ok (.iand, 1) := by decide +kernel
theorem dX3_open_18 : decode cX3_open 18 = .ok (.ireturn, 1) := by decide +kernel
theorem dX3_goFor_0 : decode cX3_goFor 0 = .ok (.iload_n 1, 1) := by decide +kernel
theorem dX3_goFor_1 : decode cX3_goFor 1 = .ok (.istore_n 2, 1) := by decide +kernel
theorem dX3_goFor_2 : decode cX3_goFor 2 = .ok (.iconst 0, 1) := by decide +kernel
theorem dX3_goFor_3 : decode cX3_goFor 3 = .ok (.istore_n 3, 1) := by decide +kernel
theorem dX3_goFor_4 : decode cX3_goFor 4 = .ok (.iload_n 3, 1) := by decide +kernel
theorem dX3_goFor_5 : decode cX3_goFor 5 = .ok (.bipush 8, 2) := by decide +kernel
theorem dX3_goFor_7 : decode cX3_goFor 7 = .ok (.if_icmp .ge 113, 3) := by decide +kernel
theorem dX3_goFor_10 : decode cX3_goFor 10 = .ok (.iload_n 2, 1) := by decide +kernel
theorem dX3_goFor_11 : decode cX3_goFor 11 = .ok (.ifCond .eq 109, 3) := by decide +kernel
theorem dX3_goFor_14 : decode cX3_goFor 14 = .ok (.iload_n 2, 1) := by decide +kernel
theorem dX3_goFor_15 : decode cX3_goFor 15 = .ok (.invokestatic 84, 3) := by decide +kernel
theorem dX3_goFor_18 : decode cX3_goFor 18 = .ok (.istore 4, 2) := by decide +kernel
theorem dX3_goFor_20 : decode cX3_goFor 20 = .ok (.aload_n 0, 1) := by decide +kernel
theorem dX3_goFor_21 : decode cX3_goFor 21 = .ok (.getfield 21, 3) := by decide +kernel
theorem dX3_goFor_24 : decode cX3_goFor 24 = .ok (.iconst 0, 1) := by decide +kernel
theorem dX3_goFor_25 : decode cX3_goFor 25 = .ok (.iload 4, 2) := by decide +kernel
theorem dX3_goFor_27 : decode cX3_goFor 27 = .ok (.invokevirtual 77, 3) := by decide +kernel
theorem dX3_goFor_30 : decode cX3_goFor 30 = .ok (.istore 5, 2) := by decide +kernel
theorem dX3_goFor_32 : decode cX3_goFor 32 = .ok (.aload_n 0, 1) := by decide +kernel
theorem dX3_goFor_33 : decode cX3_goFor 33 = .ok (.getfield 21, 3) := by decide +kernel
theorem dX3_goFor_36 : decode cX3_goFor 36 = .ok (.iconst 5, 1) := by decide +kernel
theorem dX3_goFor_37 : decode cX3_goFor 37 = .ok (.iload 5, 2) := by decide +kernel
theorem dX3_goFor_39 : decode cX3_goFor 39 = .ok (.invokevirtual 77, 3) := by decide +kernel
theorem dX3_goFor_42 : decode cX3_goFor 42 = .ok (.istore 6, 2) := by decide +kernel
theorem dX3_goFor_44 : decode cX3_goFor 44 = .ok (.aload_n 0, 1) := by decide +kernel
theorem dX3_goFor_45 : decode cX3_goFor 45 = .ok (.iload 5, 2) := by decide +kernel
theorem dX3_goFor_47 : decode cX3_goFor 47 = .ok (.iload 4, 2) := by decide +kernel
theorem dX3_goFor_49 : decode cX3_goFor 49 = .ok (.aload_n 0, 1) := by decide +kernel
theorem dX3_goFor_50 : decode cX3_goFor 50 = .ok (.getfield 21, 3) := by decide +kernel
theorem dX3_goFor_53 : decode cX3_goFor 53 = .ok (.getfield 87, 3) := by decide +kernel
theorem dX3_goFor_56 : decode cX3_goFor 56 = .ok (.iconst 1, 1) := by decide +kernel
theorem dX3_goFor_57 : decode cX3_goFor 57 = .ok (.iload 6, 2) := by decide +kernel
theorem dX3_goFor_59 : decode cX3_goFor 59 = .ok (.aload_n 0, 1) := by decide +kernel
theorem dX3_goFor_60 : decode cX3_goFor 60 = .ok (.getfield 52, 3) := by decide +kernel
theorem dX3_goFor_63 : decode cX3_goFor 63 = .ok (.aload_n 0, 1) := by decide +kernel
theorem dX3_goFor_64 : decode cX3_goFor 64 = .ok (.getfield 21, 3) := by decide +kernel
theorem dX3_goFor_67 : decode cX3_goFor 67 = .ok (.iconst 3, 1) := by decide +kernel
theorem dX3_goFor_68 : decode cX3_goFor 68 = .ok (.iload 4, 2) := by decide +kernel
theorem dX3_goFor_70 : decode cX3_goFor 70 = .ok (.invokevirtual 77, 3) := by decide +kernel
theorem dX3_goFor_73 : decode cX3_goFor 73 = .ok (.aload_n 0, 1) := by decide +kernel
theorem dX3_goFor_74 : decode cX3_goFor 74 = .ok (.getfield 36, 3) := by decide +kernel
theorem dX3_goFor_77 : decode cX3_goFor 77 = .ok (.invokevirtual 91, 3) := by decide +kernel
theorem dX3_goFor_80 : decode cX3_goFor 80 = .ok (.invokevirtual 96, 3) := by decide +kernel
theorem dX3_goFor_83 : decode cX3_goFor 83 = .ok (.aload_n 0, 1) := by decide +kernel
theorem dX3_goFor_84 : decode cX3_goFor 84 = .ok (.dup, 1) := by decide +kernel
theorem dX3_goFor_85 : decode cX3_goFor 85 = .ok (.getfield 43, 3) := by decide +kernel
theorem dX3_goFor_88 : decode cX3_goFor 88 = .ok (.iconst 1, 1) := by decide +kernel
theorem dX3_goFor_89 : decode cX3_goFor 89 = .ok (.iload 4, 2) := by decide +kernel
theorem dX3_goFor_91 : decode cX3_goFor 91 = .ok (.ishl, 1) := by decide +kernel
theorem dX3_goFor_92 : decode cX3_goFor 92 = .ok (.ior, 1) := by decide +kernel
theorem dX3_goFor_93 : decode cX3_goFor 93 = .ok (.putfield 43, 3) := by decide +kernel
theorem dX3_goFor_96 : decode cX3_goFor 96 = .ok (.iload_n 2, 1) := by decide +kernel
theorem dX3_goFor_97 : decode cX3_goFor 97 = .ok (.aload_n 0, 1) := by decide +kernel
theorem dX3_goFor_98 : decode cX3_goFor 98 = .ok (.getfield 21, 3) := by decide +kernel
theorem dX3_goFor_101 : decode cX3_goFor 101 = .ok (.iconst 4, 1) := by decide +kernel
theorem dX3_goFor_102 : decode cX3_goFor 102 = .ok (.iload 4, 2) := by decide +kernel
theorem dX3_goFor_104 : decode cX3_goFor 104 = .ok (.invokevirtual 77, 3) := by decide +kernel
theorem dX3_goFor_107 : decode cX3_goFor 107 = .ok (.ior, 1) := by decide +kernel
theorem dX3_goFor_108 : decode cX3_goFor 108 = .ok (.aload_n 0, 1) := by decide +kernel
theorem dX3_goFor_109 : decode cX3_goFor 109 = .ok (.invokevirtual 81, 3) := by decide +kernel
theorem dX3_goFor_112 : decode cX3_goFor 112 = .ok (.iand, 1) := by decide +kernel
theorem dX3_goFor_113 : decode cX3_goFor 113 = .ok (.istore_n 2, 1) := by decide +kernel
theorem dX3_goFor_114 : decode cX3_goFor 114 = .ok (.iinc 3 1, 3) := by decide +kernel
theorem dX3_goFor_117 : decode cX3_goFor 117 = .ok (.goto (-113), 3) := by decide +kernel
theorem dX3_goFor_120 : decode cX3_goFor 120 = .ok (.return_, 1) := by decide +kernel
theorem dX3_leastOf_0 : decode cX3_leastOf 0 = .ok (.iconst 0, 1) := by decide +kernel
theorem dX3_leastOf_1 : decode cX3_leastOf 1 = .ok (.istore_n 1, 1) := by decide +kernel
theorem dX3_leastOf_2 : decode cX3_leastOf 2 = .ok (.bipush 7, 2) := by decide +kernel
theorem dX3_leastOf_4 : decode cX3_leastOf 4 = .ok (.istore_n 2, 1) := by decide +kernel
theorem dX3_leastOf_5 : decode cX3_leastOf 5 = .ok (.iload_n 2, 1) := by decide +kernel
theorem dX3_leastOf_6 : decode cX3_leastOf 6 = .ok (.ifCond .lt 24, 3) := by decide +kernel
theorem dX3_leastOf_9 : decode cX3_leastOf 9 = .ok (.iload_n 0, 1) := by decide +kernel
theorem dX3_leastOf_10 : decode cX3_leastOf 10 = .ok (.iload_n 2, 1) := by decide +kernel
theorem dX3_leastOf_11 : decode cX3_leastOf 11 = .ok (.ishr, 1) := by decide +kernel
theorem dX3_leastOf_12 : decode cX3_leastOf 12 = .ok (.iconst 1, 1) := by decide +kernel
theorem dX3_leastOf_13 : decode cX3_leastOf 13 = .ok (.iand, 1) := by decide +kernel
theorem dX3_leastOf_14 : decode cX3_leastOf 14 = .ok (.iconst 1, 1) := by decide +kernel
theorem dX3_leastOf_15 : decode cX3_leastOf 15 = .ok (.if_icmp .ne 7, 3) := by decide +kernel
theorem dX3_leastOf_18 : decode cX3_leastOf 18 = .ok (.iload_n 2, 1) := by decide +kernel
theorem dX3_leastOf_19 : decode cX3_leastOf 19 = .ok (.goto 4, 3) := by decide +kernel
theorem dX3_leastOf_22 : decode cX3_leastOf 22 = .ok (.iload_n 1, 1) := by decide +kernel
theorem dX3_leastOf_23 : decode cX3_leastOf 23 = .ok (.istore_n 1, 1) := by decide +kernel
theorem dX3_leastOf_24 : decode cX3_leastOf 24 = .ok (.iinc 2 (-1), 3) := by decide +kernel
theorem dX3_leastOf_27 : decode cX3_leastOf 27 = .ok (.goto (-22), 3) := by decide +kernel
theorem dX3_leastOf_30 : decode cX3_leastOf 30 = .ok (.iload_n 1, 1) := by decide +kernel
theorem dX3_leastOf_31 : decode cX3_leastOf 31 = .ok (.ireturn, 1) := by decide +kernel
theorem dX3_noteGoing_0 : decode cX3_noteGoing 0 = .ok (.aload_n 0, 1) := by decide +kernel
theorem dX3_noteGoing_1 : decode cX3_noteGoing 1 = .ok (.getfield 52, 3) := by decide +kernel
theorem dX3_noteGoing_4 : decode cX3_noteGoing 4 = .ok (.ifCond .lt 42, 3) := by decide +kernel
theorem dX3_noteGoing_7 : decode cX3_noteGoing 7 = .ok (.aload_n 0, 1) := by decide +kernel
theorem dX3_noteGoing_8 : decode cX3_noteGoing 8 = .ok (.getfield 52, 3) := by decide +kernel
theorem dX3_noteGoing_11 : decode cX3_noteGoing 11 = .ok (.bipush 8, 2) := by decide +kernel
theorem dX3_noteGoing_13 : decode cX3_noteGoing 13 = .ok (.if_icmp .ge 33, 3) := by decide +kernel
theorem dX3_noteGoing_16 : decode cX3_noteGoing 16 = .ok (.aload_n 0, 1) := by decide +kernel
theorem dX3_noteGoing_17 : decode cX3_noteGoing 17 = .ok (.getfield 9, 3) := by decide +kernel
theorem dX3_noteGoing_20 : decode cX3_noteGoing 20 = .ok (.aload_n 0, 1) := by decide +kernel
theorem dX3_noteGoing_21 : decode cX3_noteGoing 21 = .ok (.getfield 52, 3) := by decide +kernel
theorem dX3_noteGoing_24 : decode cX3_noteGoing 24 = .ok (.iload_n 1, 1) := by decide +kernel
theorem dX3_noteGoing_25 : decode cX3_noteGoing 25 = .ok (.iastore, 1) := by decide +kernel
theorem dX3_noteGoing_26 : decode cX3_noteGoing 26 = .ok (.aload_n 0, 1) := by decide +kernel
theorem dX3_noteGoing_27 : decode cX3_noteGoing 27 = .ok (.getfield 15, 3) := by decide +kernel
theorem dX3_noteGoing_30 : decode cX3_noteGoing 30 = .ok (.aload_n 0, 1) := by decide +kernel
theorem dX3_noteGoing_31 : decode cX3_noteGoing 31 = .ok (.getfield 52, 3) := by decide +kernel
theorem dX3_noteGoing_34 : decode cX3_noteGoing 34 = .ok (.iload_n 2, 1) := by decide +kernel
theorem dX3_noteGoing_35 : decode cX3_noteGoing 35 = .ok (.iastore, 1) := by decide +kernel
theorem dX3_noteGoing_36 : decode cX3_noteGoing 36 = .ok (.aload_n 0, 1) := by decide +kernel
theorem dX3_noteGoing_37 : decode cX3_noteGoing 37 = .ok (.getfield 18, 3) := by decide +kernel
theorem dX3_noteGoing_40 : decode cX3_noteGoing 40 = .ok (.aload_n 0, 1) := by decide +kernel
theorem dX3_noteGoing_41 : decode cX3_noteGoing 41 = .ok (.getfield 52, 3) := by decide +kernel
theorem dX3_noteGoing_44 : decode cX3_noteGoing 44 = .ok (.iload_n 3, 1) := by decide +kernel
theorem dX3_noteGoing_45 : decode cX3_noteGoing 45 = .ok (.iastore, 1) := by decide +kernel
theorem dX3_noteGoing_46 : decode cX3_noteGoing 46 = .ok (.aload_n 0, 1) := by decide +kernel
theorem dX3_noteGoing_47 : decode cX3_noteGoing 47 = .ok (.dup, 1) := by decide +kernel
theorem dX3_noteGoing_48 : decode cX3_noteGoing 48 = .ok (.getfield 52, 3) := by decide +kernel
theorem dX3_noteGoing_51 : decode cX3_noteGoing 51 = .ok (.iconst 1, 1) := by decide +kernel
theorem dX3_noteGoing_52 : decode cX3_noteGoing 52 = .ok (.iadd, 1) := by decide +kernel
theorem dX3_noteGoing_53 : decode cX3_noteGoing 53 = .ok (.putfield 52, 3) := by decide +kernel
theorem dX3_noteGoing_56 : decode cX3_noteGoing 56 = .ok (.aload_n 0, 1) := by decide +kernel
theorem dX3_noteGoing_57 : decode cX3_noteGoing 57 = .ok (.dup, 1) := by decide +kernel
theorem dX3_noteGoing_58 : decode cX3_noteGoing 58 = .ok (.getfield 49, 3) := by decide +kernel
theorem dX3_noteGoing_61 : decode cX3_noteGoing 61 = .ok (.iload_n 3, 1) := by decide +kernel
theorem dX3_noteGoing_62 : decode cX3_noteGoing 62 = .ok (.iadd, 1) := by decide +kernel
theorem dX3_noteGoing_63 : decode cX3_noteGoing 63 = .ok (.putfield 49, 3) := by decide +kernel
theorem dX3_noteGoing_66 : decode cX3_noteGoing 66 = .ok (.return_, 1) := by decide +kernel
theorem dX3_becomeLike_0 : decode cX3_becomeLike 0 = .ok (.aload_n 0, 1) := by decide +kernel
theorem dX3_becomeLike_1 : decode cX3_becomeLike 1 = .ok (.aload_n 1, 1) := by decide +kernel
theorem dX3_becomeLike_2 : decode cX3_becomeLike 2 = .ok (.getfield 32, 3) := by decide +kernel
theorem dX3_becomeLike_5 : decode cX3_becomeLike 5 = .ok (.putfield 32, 3) := by decide +kernel
theorem dX3_becomeLike_8 : decode cX3_becomeLike 8 = .ok (.aload_n 0, 1) := by decide +kernel
theorem dX3_becomeLike_9 : decode cX3_becomeLike 9 = .ok (.aload_n 1, 1) := by decide +kernel
theorem dX3_becomeLike_10 : decode cX3_becomeLike 10 = .ok (.getfield 36, 3) := by decide +kernel
theorem dX3_becomeLike_13 : decode cX3_becomeLike 13 = .ok (.putfield 36, 3) := by decide +kernel
theorem dX3_becomeLike_16 : decode cX3_becomeLike 16 = .ok (.aload_n 0, 1) := by decide +kernel
theorem dX3_becomeLike_17 : decode cX3_becomeLike 17 = .ok (.aload_n 1, 1) := by decide +kernel
theorem dX3_becomeLike_18 : decode cX3_becomeLike 18 = .ok (.getfield 40, 3) := by decide +kernel
theorem dX3_becomeLike_21 : decode cX3_becomeLike 21 = .ok (.putfield 40, 3) := by decide +kernel
theorem dX3_becomeLike_24 : decode cX3_becomeLike 24 = .ok (.aload_n 0, 1) := by decide +kernel
theorem dX3_becomeLike_25 : decode cX3_becomeLike 25 = .ok (.aload_n 1, 1) := by decide +kernel
theorem dX3_becomeLike_26 : decode cX3_becomeLike 26 = .ok (.getfield 43, 3) := by decide +kernel
theorem dX3_becomeLike_29 : decode cX3_becomeLike 29 = .ok (.putfield 43, 3) := by decide +kernel
theorem dX3_becomeLike_32 : decode cX3_becomeLike 32 = .ok (.aload_n 0, 1) := by decide +kernel
theorem dX3_becomeLike_33 : decode cX3_becomeLike 33 = .ok (.aload_n 1, 1) := by decide +kernel
theorem dX3_becomeLike_34 : decode cX3_becomeLike 34 = .ok (.getfield 46, 3) := by decide +kernel
theorem dX3_becomeLike_37 : decode cX3_becomeLike 37 = .ok (.putfield 46, 3) := by decide +kernel
theorem dX3_becomeLike_40 : decode cX3_becomeLike 40 = .ok (.aload_n 0, 1) := by decide +kernel
theorem dX3_becomeLike_41 : decode cX3_becomeLike 41 = .ok (.aload_n 1, 1) := by decide +kernel
theorem dX3_becomeLike_42 : decode cX3_becomeLike 42 = .ok (.getfield 49, 3) := by decide +kernel
theorem dX3_becomeLike_45 : decode cX3_becomeLike 45 = .ok (.putfield 49, 3) := by decide +kernel
theorem dX3_becomeLike_48 : decode cX3_becomeLike 48 = .ok (.aload_n 0, 1) := by decide +kernel
theorem dX3_becomeLike_49 : decode cX3_becomeLike 49 = .ok (.aload_n 1, 1) := by decide +kernel
theorem dX3_becomeLike_50 : decode cX3_becomeLike 50 = .ok (.getfield 52, 3) := by decide +kernel
theorem dX3_becomeLike_53 : decode cX3_becomeLike 53 = .ok (.putfield 52, 3) := by decide +kernel
theorem dX3_becomeLike_56 : decode cX3_becomeLike 56 = .ok (.aload_n 0, 1) := by decide +kernel
theorem dX3_becomeLike_57 : decode cX3_becomeLike 57 = .ok (.aload_n 1, 1) := by decide +kernel
theorem dX3_becomeLike_58 : decode cX3_becomeLike 58 = .ok (.getfield 55, 3) := by decide +kernel
theorem dX3_becomeLike_61 : decode cX3_becomeLike 61 = .ok (.putfield 55, 3) := by decide +kernel
theorem dX3_becomeLike_64 : decode cX3_becomeLike 64 = .ok (.return_, 1) := by decide +kernel
theorem dX4_init_0 : decode cX4_init 0 = .ok (.aload_n 0, 1) := by decide +kernel
theorem dX4_init_1 : decode cX4_init 1 = .ok (.invokespecial 1, 3) := by decide +kernel
theorem dX4_init_4 : decode cX4_init 4 = .ok (.aload_n 0, 1) := by decide +kernel
theorem dX4_init_5 : decode cX4_init 5 = .ok (.new 7, 3) := by decide +kernel
theorem dX4_init_8 : decode cX4_init 8 = .ok (.dup, 1) := by decide +kernel
theorem dX4_init_9 : decode cX4_init 9 = .ok (.aload_n 1, 1) := by decide +kernel
theorem dX4_init_10 : decode cX4_init 10 = .ok (.invokespecial 9, 3) := by decide +kernel
theorem dX4_init_13 : decode cX4_init 13 = .ok (.putfield 12, 3) := by decide +kernel
theorem dX4_init_16 : decode cX4_init 16 = .ok (.aload_n 0, 1) := by decide +kernel
theorem dX4_init_17 : decode cX4_init 17 = .ok (.new 7, 3) := by decide +kernel
theorem dX4_init_20 : decode cX4_init 20 = .ok (.dup, 1) := by decide +kernel
theorem dX4_init_21 : decode cX4_init 21 = .ok (.aload_n 1, 1) := by decide +kernel
theorem dX4_init_22 : decode cX4_init 22 = .ok (.invokespecial 9, 3) := by decide +kernel
theorem dX4_init_25 : decode cX4_init 25 = .ok (.putfield 18, 3) := by decide +kernel
theorem dX4_init_28 : decode cX4_init 28 = .ok (.return_, 1) := by decide +kernel
theorem dX4_keepImage_0 : decode cX4_keepImage 0 = .ok (.aload_n 0, 1) := by decide +kernel
theorem dX4_keepImage_1 : decode cX4_keepImage 1 = .ok (.getfield 18, 3) := by decide +kernel
theorem dX4_keepImage_4 : decode cX4_keepImage 4 = .ok (.aload_n 0, 1) := by decide +kernel
theorem dX4_keepImage_5 : decode cX4_keepImage 5 = .ok (.getfield 12, 3) := by decide +kernel
theorem dX4_keepImage_8 : decode cX4_keepImage 8 = .ok (.invokevirtual 21, 3) := by decide +kernel
theorem dX4_keepImage_11 : decode cX4_keepImage 11 = .ok (.aload_n 0, 1) := by decide +kernel
theorem dX4_keepImage_12 : decode cX4_keepImage 12 = .ok (.aload_n 0, 1) := by decide +kernel
theorem dX4_keepImage_13 : decode cX4_keepImage 13 = .ok (.getfield 25, 3) := by decide +kernel
theorem dX4_keepImage_16 : decode cX4_keepImage 16 = .ok (.putfield 29, 3) := by decide +kernel
theorem dX4_keepImage_19 : decode cX4_keepImage 19 = .ok (.aload_n 0, 1) := by decide +kernel
theorem dX4_keepImage_20 : decode cX4_keepImage 20 = .ok (.aload_n 0, 1) := by decide +kernel
theorem dX4_keepImage_21 : decode cX4_keepImage 21 = .ok (.getfield 32, 3) := by decide +kernel
theorem dX4_keepImage_24 : decode cX4_keepImage 24 = .ok (.putfield 35, 3) := by decide +kernel
theorem dX4_keepImage_27 : decode cX4_keepImage 27 = .ok (.aload_n 0, 1) := by decide +kernel
theorem dX4_keepImage_28 : decode cX4_keepImage 28 = .ok (.iconst 1, 1) := by decide +kernel
theorem dX4_keepImage_29 : decode cX4_keepImage 29 = .ok (.putfield 38, 3) := by decide +kernel
theorem dX4_keepImage_32 : decode cX4_keepImage 32 = .ok (.return_, 1) := by decide +kernel
theorem dX4_layBack_0 : decode cX4_layBack 0 = .ok (.aload_n 0, 1) := by decide +kernel
theorem dX4_layBack_1 : decode cX4_layBack 1 = .ok (.getfield 12, 3) := by decide +kernel
theorem dX4_layBack_4 : decode cX4_layBack 4 = .ok (.aload_n 0, 1) := by decide +kernel
theorem dX4_layBack_5 : decode cX4_layBack 5 = .ok (.getfield 18, 3) := by decide +kernel
theorem dX4_layBack_8 : decode cX4_layBack 8 = .ok (.invokevirtual 21, 3) := by decide +kernel
theorem dX4_layBack_11 : decode cX4_layBack 11 = .ok (.aload_n 0, 1) := by decide +kernel
theorem dX4_layBack_12 : decode cX4_layBack 12 = .ok (.aload_n 0, 1) := by decide +kernel
theorem dX4_layBack_13 : decode cX4_layBack 13 = .ok (.getfield 29, 3) := by decide +kernel
theorem dX4_layBack_16 : decode cX4_layBack 16 = .ok (.putfield 25, 3) := by decide +kernel
theorem dX4_layBack_19 : decode cX4_layBack 19 = .ok (.aload_n 0, 1) := by decide +kernel
theorem dX4_layBack_20 : decode cX4_layBack 20 = .ok (.aload_n 0, 1) := by decide +kernel
theorem dX4_layBack_21 : decode cX4_layBack 21 = .ok (.getfield 35, 3) := by decide +kernel
theorem dX4_layBack_24 : decode cX4_layBack 24 = .ok (.putfield 32, 3) := by decide +kernel
theorem dX4_layBack_27 : decode cX4_layBack 27 = .ok (.return_, 1) := by decide +kernel
