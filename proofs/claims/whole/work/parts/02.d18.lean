theorem dX11_doorstep_28 : decode cX11_doorstep 28 = .ok (.iconst (-1), 1) := by decide +kernel
theorem dX11_doorstep_29 : decode cX11_doorstep 29 = .ok (.istore_n 2, 1) := by decide +kernel
theorem dX11_doorstep_30 : decode cX11_doorstep 30 = .ok (.lconst 0, 1) := by decide +kernel
theorem dX11_doorstep_31 : decode cX11_doorstep 31 = .ok (.lstore_n 3, 1) := by decide +kernel
theorem dX11_doorstep_32 : decode cX11_doorstep 32 = .ok (.iconst 0, 1) := by decide +kernel
theorem dX11_doorstep_33 : decode cX11_doorstep 33 = .ok (.istore 5, 2) := by decide +kernel
theorem dX11_doorstep_35 : decode cX11_doorstep 35 = .ok (.iload 5, 2) := by decide +kernel
theorem dX11_doorstep_37 : decode cX11_doorstep 37 = .ok (.aload_n 0, 1) := by decide +kernel
theorem dX11_doorstep_38 : decode cX11_doorstep 38 = .ok (.getfield 115, 3) := by decide +kernel
theorem dX11_doorstep_41 : decode cX11_doorstep 41 = .ok (.if_icmp .ge 61, 3) := by decide +kernel
theorem dX11_doorstep_44 : decode cX11_doorstep 44 = .ok (.aload_n 0, 1) := by decide +kernel
theorem dX11_doorstep_45 : decode cX11_doorstep 45 = .ok (.getfield 15, 3) := by decide +kernel
theorem dX11_doorstep_48 : decode cX11_doorstep 48 = .ok (.iload 5, 2) := by decide +kernel
theorem dX11_doorstep_50 : decode cX11_doorstep 50 = .ok (.iaload, 1) := by decide +kernel
theorem dX11_doorstep_51 : decode cX11_doorstep 51 = .ok (.istore 6, 2) := by decide +kernel
theorem dX11_doorstep_53 : decode cX11_doorstep 53 = .ok (.aload_n 0, 1) := by decide +kernel
theorem dX11_doorstep_54 : decode cX11_doorstep 54 = .ok (.getfield 15, 3) := by decide +kernel
theorem dX11_doorstep_57 : decode cX11_doorstep 57 = .ok (.iload 5, 2) := by decide +kernel
theorem dX11_doorstep_59 : decode cX11_doorstep 59 = .ok (.iconst 0, 1) := by decide +kernel
theorem dX11_doorstep_60 : decode cX11_doorstep 60 = .ok (.iastore, 1) := by decide +kernel
theorem dX11_doorstep_61 : decode cX11_doorstep 61 = .ok (.aload_n 0, 1) := by decide +kernel
theorem dX11_doorstep_62 : decode cX11_doorstep 62 = .ok (.invokevirtual 307, 3) := by decide +kernel
theorem dX11_doorstep_65 : decode cX11_doorstep 65 = .ok (.lstore 7, 2) := by decide +kernel
theorem dX11_doorstep_67 : decode cX11_doorstep 67 = .ok (.aload_n 0, 1) := by decide +kernel
theorem dX11_doorstep_68 : decode cX11_doorstep 68 = .ok (.getfield 15, 3) := by decide +kernel
theorem dX11_doorstep_71 : decode cX11_doorstep 71 = .ok (.iload 5, 2) := by decide +kernel
theorem dX11_doorstep_73 : decode cX11_doorstep 73 = .ok (.iload 6, 2) := by decide +kernel
theorem dX11_doorstep_75 : decode cX11_doorstep 75 = .ok (.iastore, 1) := by decide +kernel
theorem dX11_doorstep_76 : decode cX11_doorstep 76 = .ok (.iload_n 2, 1) := by decide +kernel
theorem dX11_doorstep_77 : decode cX11_doorstep 77 = .ok (.ifCond .lt 13, 3) := by decide +kernel
theorem dX11_doorstep_80 : decode cX11_doorstep 80 = .ok (.lload 7, 2) := by decide +kernel
theorem dX11_doorstep_82 : decode cX11_doorstep 82 = .ok (.lload_n 3, 1) := by decide +kernel
theorem dX11_doorstep_83 : decode cX11_doorstep 83 = .ok (.lcmp, 1) := by decide +kernel
theorem dX11_doorstep_84 : decode cX11_doorstep 84 = .ok (.ifCond .lt 6, 3) := by decide +kernel
theorem dX11_doorstep_87 : decode cX11_doorstep 87 = .ok (.goto 9, 3) := by decide +kernel
theorem dX11_doorstep_90 : decode cX11_doorstep 90 = .ok (.iload 5, 2) := by decide +kernel
theorem dX11_doorstep_92 : decode cX11_doorstep 92 = .ok (.istore_n 2, 1) := by decide +kernel
theorem dX11_doorstep_93 : decode cX11_doorstep 93 = .ok (.lload 7, 2) := by decide +kernel
theorem dX11_doorstep_95 : decode cX11_doorstep 95 = .ok (.lstore_n 3, 1) := by decide +kernel
theorem dX11_doorstep_96 : decode cX11_doorstep 96 = .ok (.iinc 5 1, 3) := by decide +kernel
theorem dX11_doorstep_99 : decode cX11_doorstep 99 = .ok (.goto (-64), 3) := by decide +kernel
theorem dX11_doorstep_102 : decode cX11_doorstep 102 = .ok (.iload_n 1, 1) := by decide +kernel
theorem dX11_doorstep_103 : decode cX11_doorstep 103 = .ok (.iconst 2, 1) := by decide +kernel
theorem dX11_doorstep_104 : decode cX11_doorstep 104 = .ok (.if_icmp .ne 8, 3) := by decide +kernel
theorem dX11_doorstep_107 : decode cX11_doorstep 107 = .ok (.iload_n 2, 1) := by decide +kernel
theorem dX11_doorstep_108 : decode cX11_doorstep 108 = .ok (.i2l, 1) := by decide +kernel
theorem dX11_doorstep_109 : decode cX11_doorstep 109 = .ok (.goto 15, 3) := by decide +kernel
theorem dX11_doorstep_112 : decode cX11_doorstep 112 = .ok (.lload_n 3, 1) := by decide +kernel
theorem dX11_doorstep_113 : decode cX11_doorstep 113 = .ok (.aload_n 0, 1) := by decide +kernel
theorem dX11_doorstep_114 : decode cX11_doorstep 114 = .ok (.getfield 115, 3) := by decide +kernel
theorem dX11_doorstep_117 : decode cX11_doorstep 117 = .ok (.invokestatic 311, 3) := by decide +kernel
theorem dX11_doorstep_120 : decode cX11_doorstep 120 = .ok (.iload_n 1, 1) := by decide +kernel
theorem dX11_doorstep_121 : decode cX11_doorstep 121 = .ok (.invokestatic 314, 3) := by decide +kernel
theorem dX11_doorstep_124 : decode cX11_doorstep 124 = .ok (.lreturn, 1) := by decide +kernel
theorem dX11_meanBy_0 : decode cX11_meanBy 0 = .ok (.iload_n 1, 1) := by decide +kernel
theorem dX11_meanBy_1 : decode cX11_meanBy 1 = .ok (.invokestatic 318, 3) := by decide +kernel
theorem dX11_meanBy_4 : decode cX11_meanBy 4 = .ok (.istore_n 2, 1) := by decide +kernel
theorem dX11_meanBy_5 : decode cX11_meanBy 5 = .ok (.lconst 0, 1) := by decide +kernel
theorem dX11_meanBy_6 : decode cX11_meanBy 6 = .ok (.lstore_n 3, 1) := by decide +kernel
theorem dX11_meanBy_7 : decode cX11_meanBy 7 = .ok (.iconst 0, 1) := by decide +kernel
theorem dX11_meanBy_8 : decode cX11_meanBy 8 = .ok (.istore 5, 2) := by decide +kernel
theorem dX11_meanBy_10 : decode cX11_meanBy 10 = .ok (.iload 5, 2) := by decide +kernel
theorem dX11_meanBy_12 : decode cX11_meanBy 12 = .ok (.aload_n 0, 1) := by decide +kernel
theorem dX11_meanBy_13 : decode cX11_meanBy 13 = .ok (.invokevirtual 262, 3) := by decide +kernel
theorem dX11_meanBy_16 : decode cX11_meanBy 16 = .ok (.if_icmp .gt 141, 3) := by decide +kernel
theorem dX11_meanBy_19 : decode cX11_meanBy 19 = .ok (.aload_n 0, 1) := by decide +kernel
theorem dX11_meanBy_20 : decode cX11_meanBy 20 = .ok (.getfield 84, 3) := by decide +kernel
theorem dX11_meanBy_23 : decode cX11_meanBy 23 = .ok (.iload 5, 2) := by decide +kernel
theorem dX11_meanBy_25 : decode cX11_meanBy 25 = .ok (.iaload, 1) := by decide +kernel
theorem dX11_meanBy_26 : decode cX11_meanBy 26 = .ok (.i2l, 1) := by decide +kernel
theorem dX11_meanBy_27 : decode cX11_meanBy 27 = .ok (.lstore 6, 2) := by decide +kernel
theorem dX11_meanBy_29 : decode cX11_meanBy 29 = .ok (.iconst 0, 1) := by decide +kernel
theorem dX11_meanBy_30 : decode cX11_meanBy 30 = .ok (.istore 8, 2) := by decide +kernel
theorem dX11_meanBy_32 : decode cX11_meanBy 32 = .ok (.iload 8, 2) := by decide +kernel
theorem dX11_meanBy_34 : decode cX11_meanBy 34 = .ok (.aload_n 0, 1) := by decide +kernel
theorem dX11_meanBy_35 : decode cX11_meanBy 35 = .ok (.getfield 115, 3) := by decide +kernel
theorem dX11_meanBy_38 : decode cX11_meanBy 38 = .ok (.if_icmp .ge 108, 3) := by decide +kernel
theorem dX11_meanBy_41 : decode cX11_meanBy 41 = .ok (.iload 5, 2) := by decide +kernel
theorem dX11_meanBy_43 : decode cX11_meanBy 43 = .ok (.iload 8, 2) := by decide +kernel
theorem dX11_meanBy_45 : decode cX11_meanBy 45 = .ok (.ishr, 1) := by decide +kernel
theorem dX11_meanBy_46 : decode cX11_meanBy 46 = .ok (.iconst 1, 1) := by decide +kernel
theorem dX11_meanBy_47 : decode cX11_meanBy 47 = .ok (.iand, 1) := by decide +kernel
theorem dX11_meanBy_48 : decode cX11_meanBy 48 = .ok (.iconst 1, 1) := by decide +kernel
theorem dX11_meanBy_49 : decode cX11_meanBy 49 = .ok (.if_icmp .ne 7, 3) := by decide +kernel
theorem dX11_meanBy_52 : decode cX11_meanBy 52 = .ok (.iconst 1, 1) := by decide +kernel
theorem dX11_meanBy_53 : decode cX11_meanBy 53 = .ok (.goto 4, 3) := by decide +kernel
theorem dX11_meanBy_56 : decode cX11_meanBy 56 = .ok (.iconst 0, 1) := by decide +kernel
theorem dX11_meanBy_57 : decode cX11_meanBy 57 = .ok (.istore 9, 2) := by decide +kernel
theorem dX11_meanBy_59 : decode cX11_meanBy 59 = .ok (.iload_n 1, 1) := by decide +kernel
theorem dX11_meanBy_60 : decode cX11_meanBy 60 = .ok (.iload 8, 2) := by decide +kernel
theorem dX11_meanBy_62 : decode cX11_meanBy 62 = .ok (.ishr, 1) := by decide +kernel
theorem dX11_meanBy_63 : decode cX11_meanBy 63 = .ok (.iconst 1, 1) := by decide +kernel
theorem dX11_meanBy_64 : decode cX11_meanBy 64 = .ok (.iand, 1) := by decide +kernel
theorem dX11_meanBy_65 : decode cX11_meanBy 65 = .ok (.ifCond .ne 38, 3) := by decide +kernel
theorem dX11_meanBy_68 : decode cX11_meanBy 68 = .ok (.lload 6, 2) := by decide +kernel
theorem dX11_meanBy_70 : decode cX11_meanBy 70 = .ok (.iload 9, 2) := by decide +kernel
theorem dX11_meanBy_72 : decode cX11_meanBy 72 = .ok (.ifCond .eq 14, 3) := by decide +kernel
theorem dX11_meanBy_75 : decode cX11_meanBy 75 = .ok (.aload_n 0, 1) := by decide +kernel
theorem dX11_meanBy_76 : decode cX11_meanBy 76 = .ok (.getfield 15, 3) := by decide +kernel
theorem dX11_meanBy_79 : decode cX11_meanBy 79 = .ok (.iload 8, 2) := by decide +kernel
theorem dX11_meanBy_81 : decode cX11_meanBy 81 = .ok (.iaload, 1) := by decide +kernel
theorem dX11_meanBy_82 : decode cX11_meanBy 82 = .ok (.i2l, 1) := by decide +kernel
theorem dX11_meanBy_83 : decode cX11_meanBy 83 = .ok (.goto 14, 3) := by decide +kernel
theorem dX11_meanBy_86 : decode cX11_meanBy 86 = .ok (.bipush 12, 2) := by decide +kernel
theorem dX11_meanBy_88 : decode cX11_meanBy 88 = .ok (.aload_n 0, 1) := by decide +kernel
theorem dX11_meanBy_89 : decode cX11_meanBy 89 = .ok (.getfield 15, 3) := by decide +kernel
theorem dX11_meanBy_92 : decode cX11_meanBy 92 = .ok (.iload 8, 2) := by decide +kernel
theorem dX11_meanBy_94 : decode cX11_meanBy 94 = .ok (.iaload, 1) := by decide +kernel
theorem dX11_meanBy_95 : decode cX11_meanBy 95 = .ok (.isub, 1) := by decide +kernel
theorem dX11_meanBy_96 : decode cX11_meanBy 96 = .ok (.i2l, 1) := by decide +kernel
theorem dX11_meanBy_97 : decode cX11_meanBy 97 = .ok (.lmul, 1) := by decide +kernel
theorem dX11_meanBy_98 : decode cX11_meanBy 98 = .ok (.lstore 6, 2) := by decide +kernel
theorem dX11_meanBy_100 : decode cX11_meanBy 100 = .ok (.goto 40, 3) := by decide +kernel
theorem dX11_meanBy_103 : decode cX11_meanBy 103 = .ok (.lload 6, 2) := by decide +kernel
theorem dX11_meanBy_105 : decode cX11_meanBy 105 = .ok (.iload 9, 2) := by decide +kernel
theorem dX11_meanBy_107 : decode cX11_meanBy 107 = .ok (.ifCond .eq 16, 3) := by decide +kernel
theorem dX11_meanBy_110 : decode cX11_meanBy 110 = .ok (.aload_n 0, 1) := by decide +kernel
theorem dX11_meanBy_111 : decode cX11_meanBy 111 = .ok (.getfield 15, 3) := by decide +kernel
theorem dX11_meanBy_114 : decode cX11_meanBy 114 = .ok (.iload 8, 2) := by decide +kernel
theorem dX11_meanBy_116 : decode cX11_meanBy 116 = .ok (.iaload, 1) := by decide +kernel
theorem dX11_meanBy_117 : decode cX11_meanBy 117 = .ok (.iload_n 2, 1) := by decide +kernel
theorem dX11_meanBy_118 : decode cX11_meanBy 118 = .ok (.imul, 1) := by decide +kernel
theorem dX11_meanBy_119 : decode cX11_meanBy 119 = .ok (.i2l, 1) := by decide +kernel
theorem dX11_meanBy_120 : decode cX11_meanBy 120 = .ok (.goto 17, 3) := by decide +kernel
theorem dX11_meanBy_123 : decode cX11_meanBy 123 = .ok (.sipush 144, 3) := by decide +kernel
theorem dX11_meanBy_126 : decode cX11_meanBy 126 = .ok (.aload_n 0, 1) := by decide +kernel
theorem dX11_meanBy_127 : decode cX11_meanBy 127 = .ok (.getfield 15, 3) := by decide +kernel
theorem dX11_meanBy_130 : decode cX11_meanBy 130 = .ok (.iload 8, 2) := by decide +kernel
theorem dX11_meanBy_132 : decode cX11_meanBy 132 = .ok (.iaload, 1) := by decide +kernel
theorem dX11_meanBy_133 : decode cX11_meanBy 133 = .ok (.iload_n 2, 1) := by decide +kernel
theorem dX11_meanBy_134 : decode cX11_meanBy 134 = .ok (.imul, 1) := by decide +kernel
theorem dX11_meanBy_135 : decode cX11_meanBy 135 = .ok (.isub, 1) := by decide +kernel
theorem dX11_meanBy_136 : decode cX11_meanBy 136 = .ok (.i2l, 1) := by decide +kernel
theorem dX11_meanBy_137 : decode cX11_meanBy 137 = .ok (.lmul, 1) := by decide +kernel
theorem dX11_meanBy_138 : decode cX11_meanBy 138 = .ok (.lstore 6, 2) := by decide +kernel
theorem dX11_meanBy_140 : decode cX11_meanBy 140 = .ok (.iinc 8 1, 3) := by decide +kernel
theorem dX11_meanBy_143 : decode cX11_meanBy 143 = .ok (.goto (-111), 3) := by decide +kernel
theorem dX11_meanBy_146 : decode cX11_meanBy 146 = .ok (.lload_n 3, 1) := by decide +kernel
theorem dX11_meanBy_147 : decode cX11_meanBy 147 = .ok (.lload 6, 2) := by decide +kernel
theorem dX11_meanBy_149 : decode cX11_meanBy 149 = .ok (.ladd, 1) := by decide +kernel
theorem dX11_meanBy_150 : decode cX11_meanBy 150 = .ok (.lstore_n 3, 1) := by decide +kernel
theorem dX11_meanBy_151 : decode cX11_meanBy 151 = .ok (.iinc 5 1, 3) := by decide +kernel
theorem dX11_meanBy_154 : decode cX11_meanBy 154 = .ok (.goto (-144), 3) := by decide +kernel
theorem dX11_meanBy_157 : decode cX11_meanBy 157 = .ok (.lload_n 3, 1) := by decide +kernel
theorem dX11_meanBy_158 : decode cX11_meanBy 158 = .ok (.iconst 3, 1) := by decide +kernel
theorem dX11_meanBy_159 : decode cX11_meanBy 159 = .ok (.iload_n 2, 1) := by decide +kernel
theorem dX11_meanBy_160 : decode cX11_meanBy 160 = .ok (.isub, 1) := by decide +kernel
theorem dX11_meanBy_161 : decode cX11_meanBy 161 = .ok (.invokestatic 311, 3) := by decide +kernel
theorem dX11_meanBy_164 : decode cX11_meanBy 164 = .ok (.lmul, 1) := by decide +kernel
theorem dX11_meanBy_165 : decode cX11_meanBy 165 = .ok (.lreturn, 1) := by decide +kernel
theorem dX11_list_0 : decode cX11_list 0 = .ok (.iload_n 1, 1) := by decide +kernel
theorem dX11_list_1 : decode cX11_list 1 = .ok (.iconst 0, 1) := by decide +kernel
theorem dX11_list_2 : decode cX11_list 2 = .ok (.iconst 3, 1) := by decide +kernel
theorem dX11_list_3 : decode cX11_list 3 = .ok (.invokestatic 118, 3) := by decide +kernel
theorem dX11_list_6 : decode cX11_list 6 = .ok (.ifCond .eq 12, 3) := by decide +kernel
theorem dX11_list_9 : decode cX11_list 9 = .ok (.iload_n 2, 1) := by decide +kernel
theorem dX11_list_10 : decode cX11_list 10 = .ok (.iconst 0, 1) := by decide +kernel
theorem dX11_list_11 : decode cX11_list 11 = .ok (.iconst 2, 1) := by decide +kernel
theorem dX11_list_12 : decode cX11_list 12 = .ok (.invokestatic 118, 3) := by decide +kernel
theorem dX11_list_15 : decode cX11_list 15 = .ok (.ifCond .ne 7, 3) := by decide +kernel
theorem dX11_list_18 : decode cX11_list 18 = .ok (.ldc2_w 302, 3) := by decide +kernel
theorem dX11_list_21 : decode cX11_list 21 = .ok (.lreturn, 1) := by decide +kernel
theorem dX11_list_22 : decode cX11_list 22 = .ok (.aload_n 0, 1) := by decide +kernel
theorem dX11_list_23 : decode cX11_list 23 = .ok (.invokevirtual 304, 3) := by decide +kernel
theorem dX11_list_26 : decode cX11_list 26 = .ok (.iconst 0, 1) := by decide +kernel
theorem dX11_list_27 : decode cX11_list 27 = .ok (.istore_n 3, 1) := by decide +kernel
theorem dX11_list_28 : decode cX11_list 28 = .ok (.aload_n 0, 1) := by decide +kernel
theorem dX11_list_29 : decode cX11_list 29 = .ok (.iconst 0, 1) := by decide +kernel
theorem dX11_list_30 : decode cX11_list 30 = .ok (.invokevirtual 326, 3) := by decide +kernel
theorem dX11_list_33 : decode cX11_list 33 = .ok (.lstore 4, 2) := by decide +kernel
theorem dX11_list_35 : decode cX11_list 35 = .ok (.iconst 1, 1) := by decide +kernel
theorem dX11_list_36 : decode cX11_list 36 = .ok (.istore 6, 2) := by decide +kernel
theorem dX11_list_38 : decode cX11_list 38 = .ok (.iload 6, 2) := by decide +kernel
theorem dX11_list_40 : decode cX11_list 40 = .ok (.iload_n 1, 1) := by decide +kernel
theorem dX11_list_41 : decode cX11_list 41 = .ok (.if_icmp .gt 66, 3) := by decide +kernel
theorem dX11_list_44 : decode cX11_list 44 = .ok (.iconst 0, 1) := by decide +kernel
theorem dX11_list_45 : decode cX11_list 45 = .ok (.istore 7, 2) := by decide +kernel
theorem dX11_list_47 : decode cX11_list 47 = .ok (.iload 7, 2) := by decide +kernel
theorem dX11_list_49 : decode cX11_list 49 = .ok (.aload_n 0, 1) := by decide +kernel
theorem dX11_list_50 : decode cX11_list 50 = .ok (.invokevirtual 262, 3) := by decide +kernel
theorem dX11_list_53 : decode cX11_list 53 = .ok (.if_icmp .gt 48, 3) := by decide +kernel
theorem dX11_list_56 : decode cX11_list 56 = .ok (.iload 7, 2) := by decide +kernel
theorem dX11_list_58 : decode cX11_list 58 = .ok (.invokestatic 318, 3) := by decide +kernel
theorem dX11_list_61 : decode cX11_list 61 = .ok (.iload 6, 2) := by decide +kernel
theorem dX11_list_63 : decode cX11_list 63 = .ok (.if_icmp .eq 6, 3) := by decide +kernel
theorem dX11_list_66 : decode cX11_list 66 = .ok (.goto 29, 3) := by decide +kernel
theorem dX11_list_69 : decode cX11_list 69 = .ok (.aload_n 0, 1) := by decide +kernel
theorem dX11_list_70 : decode cX11_list 70 = .ok (.iload 7, 2) := by decide +kernel
theorem dX11_list_72 : decode cX11_list 72 = .ok (.invokevirtual 326, 3) := by decide +kernel
theorem dX11_list_75 : decode cX11_list 75 = .ok (.lstore 8, 2) := by decide +kernel
theorem dX11_list_77 : decode cX11_list 77 = .ok (.lload 8, 2) := by decide +kernel
theorem dX11_list_79 : decode cX11_list 79 = .ok (.lload 4, 2) := by decide +kernel
theorem dX11_list_81 : decode cX11_list 81 = .ok (.lcmp, 1) := by decide +kernel
theorem dX11_list_82 : decode cX11_list 82 = .ok (.ifCond .lt 6, 3) := by decide +kernel
theorem dX11_list_85 : decode cX11_list 85 = .ok (.goto 10, 3) := by decide +kernel
theorem dX11_list_88 : decode cX11_list 88 = .ok (.iload 7, 2) := by decide +kernel
theorem dX11_list_90 : decode cX11_list 90 = .ok (.istore_n 3, 1) := by decide +kernel
theorem dX11_list_91 : decode cX11_list 91 = .ok (.lload 8, 2) := by decide +kernel
theorem dX11_list_93 : decode cX11_list 93 = .ok (.lstore 4, 2) := by decide +kernel
theorem dX11_list_95 : decode cX11_list 95 = .ok (.iinc 7 1, 3) := by decide +kernel
theorem dX11_list_98 : decode cX11_list 98 = .ok (.goto (-51), 3) := by decide +kernel
theorem dX11_list_101 : decode cX11_list 101 = .ok (.iinc 6 1, 3) := by decide +kernel
theorem dX11_list_104 : decode cX11_list 104 = .ok (.goto (-66), 3) := by decide +kernel
theorem dX11_list_107 : decode cX11_list 107 = .ok (.iload_n 2, 1) := by decide +kernel
theorem dX11_list_108 : decode cX11_list 108 = .ok (.iconst 2, 1) := by decide +kernel
theorem dX11_list_109 : decode cX11_list 109 = .ok (.if_icmp .ne 8, 3) := by decide +kernel
theorem dX11_list_112 : decode cX11_list 112 = .ok (.iload_n 3, 1) := by decide +kernel
theorem dX11_list_113 : decode cX11_list 113 = .ok (.i2l, 1) := by decide +kernel
theorem dX11_list_114 : decode cX11_list 114 = .ok (.goto 18, 3) := by decide +kernel
theorem dX11_list_117 : decode cX11_list 117 = .ok (.lload 4, 2) := by decide +kernel
theorem dX11_list_119 : decode cX11_list 119 = .ok (.aload_n 0, 1) := by decide +kernel
theorem dX11_list_120 : decode cX11_list 120 = .ok (.getfield 115, 3) := by decide +kernel
theorem dX11_list_123 : decode cX11_list 123 = .ok (.iconst 3, 1) := by decide +kernel
theorem dX11_list_124 : decode cX11_list 124 = .ok (.iadd, 1) := by decide +kernel
theorem dX11_list_125 : decode cX11_list 125 = .ok (.invokestatic 311, 3) := by decide +kernel
theorem dX11_list_128 : decode cX11_list 128 = .ok (.iload_n 2, 1) := by decide +kernel
theorem dX11_list_129 : decode cX11_list 129 = .ok (.invokestatic 314, 3) := by decide +kernel
theorem dX11_list_132 : decode cX11_list 132 = .ok (.lreturn, 1) := by decide +kernel
theorem dX11_onWith_0 : decode cX11_onWith 0 = .ok (.aload_n 0, 1) := by decide +kernel
theorem dX11_onWith_1 : decode cX11_onWith 1 = .ok (.iload_n 1, 1) := by decide +kernel
theorem dX11_onWith_2 : decode cX11_onWith 2 = .ok (.invokevirtual 284, 3) := by decide +kernel
theorem dX11_onWith_5 : decode cX11_onWith 5 = .ok (.ifCond .ne 5, 3) := by decide +kernel
theorem dX11_onWith_8 : decode cX11_onWith 8 = .ok (.iconst (-1), 1) := by decide +kernel
theorem dX11_onWith_9 : decode cX11_onWith 9 = .ok (.ireturn, 1) := by decide +kernel
theorem dX11_onWith_10 : decode cX11_onWith 10 = .ok (.aload_n 0, 1) := by decide +kernel
theorem dX11_onWith_11 : decode cX11_onWith 11 = .ok (.iload_n 1, 1) := by decide +kernel
theorem dX11_onWith_12 : decode cX11_onWith 12 = .ok (.invokevirtual 287, 3) := by decide +kernel
theorem dX11_onWith_15 : decode cX11_onWith 15 = .ok (.aload_n 0, 1) := by decide +kernel
theorem dX11_onWith_16 : decode cX11_onWith 16 = .ok (.getfield 255, 3) := by decide +kernel
theorem dX11_onWith_19 : decode cX11_onWith 19 = .ok (.ireturn, 1) := by decide +kernel
theorem dX11_rowFault_0 : decode cX11_rowFault 0 = .ok (.aload_n 0, 1) := by decide +kernel
theorem dX11_rowFault_1 : decode cX11_rowFault 1 = .ok (.getfield 99, 3) := by decide +kernel
theorem dX11_rowFault_4 : decode cX11_rowFault 4 = .ok (.iload_n 1, 1) := by decide +kernel
theorem dX11_rowFault_5 : decode cX11_rowFault 5 = .ok (.iaload, 1) := by decide +kernel
theorem dX11_rowFault_6 : decode cX11_rowFault 6 = .ok (.iconst (-1), 1) := by decide +kernel
theorem dX11_rowFault_7 : decode cX11_rowFault 7 = .ok (.if_icmp .ne 8, 3) := by decide +kernel
theorem dX11_rowFault_10 : decode cX11_rowFault 10 = .ok (.bipush (-11), 2) := by decide +kernel
theorem dX11_rowFault_12 : decode cX11_rowFault 12 = .ok (.goto 20, 3) := by decide +kernel
theorem dX11_rowFault_15 : decode cX11_rowFault 15 = .ok (.aload_n 0, 1) := by decide +kernel
theorem dX11_rowFault_16 : decode cX11_rowFault 16 = .ok (.getfield 99, 3) := by decide +kernel
theorem dX11_rowFault_19 : decode cX11_rowFault 19 = .ok (.iload_n 1, 1) := by decide +kernel
theorem dX11_rowFault_20 : decode cX11_rowFault 20 = .ok (.iaload, 1) := by decide +kernel
theorem dX11_rowFault_21 : decode cX11_rowFault 21 = .ok (.bipush (-2), 2) := by decide +kernel
theorem dX11_rowFault_23 : decode cX11_rowFault 23 = .ok (.if_icmp .ne 7, 3) := by decide +kernel
theorem dX11_rowFault_26 : decode cX11_rowFault 26 = .ok (.iconst 0, 1) := by decide +kernel
theorem dX11_rowFault_27 : decode cX11_rowFault 27 = .ok (.goto 5, 3) := by decide +kernel
theorem dX11_rowFault_30 : decode cX11_rowFault 30 = .ok (.bipush (-12), 2) := by decide +kernel
theorem dX11_rowFault_32 : decode cX11_rowFault 32 = .ok (.ireturn, 1) := by decide +kernel
theorem dX11_wrongIn_0 : decode cX11_wrongIn 0 = .ok (.aload_n 0, 1) := by decide +kernel
theorem dX11_wrongIn_1 : decode cX11_wrongIn 1 = .ok (.iload_n 2, 1) := by decide +kernel
theorem dX11_wrongIn_2 : decode cX11_wrongIn 2 = .ok (.invokevirtual 287, 3) := by decide +kernel
theorem dX11_wrongIn_5 : decode cX11_wrongIn 5 = .ok (.iconst 0, 1) := by decide +kernel
theorem dX11_wrongIn_6 : decode cX11_wrongIn 6 = .ok (.istore_n 3, 1) := by decide +kernel
theorem dX11_wrongIn_7 : decode cX11_wrongIn 7 = .ok (.iconst 2, 1) := by decide +kernel
theorem dX11_wrongIn_8 : decode cX11_wrongIn 8 = .ok (.iload_n 3, 1) := by decide +kernel
theorem dX11_wrongIn_9 : decode cX11_wrongIn 9 = .ok (.imul, 1) := by decide +kernel
theorem dX11_wrongIn_10 : decode cX11_wrongIn 10 = .ok (.aload_n 0, 1) := by decide +kernel
theorem dX11_wrongIn_11 : decode cX11_wrongIn 11 = .ok (.getfield 102, 3) := by decide +kernel
theorem dX11_wrongIn_14 : decode cX11_wrongIn 14 = .ok (.iload_n 1, 1) := by decide +kernel
theorem dX11_wrongIn_15 : decode cX11_wrongIn 15 = .ok (.iaload, 1) := by decide +kernel
theorem dX11_wrongIn_16 : decode cX11_wrongIn 16 = .ok (.if_icmp .lt 11, 3) := by decide +kernel
theorem dX11_wrongIn_19 : decode cX11_wrongIn 19 = .ok (.iload_n 3, 1) := by decide +kernel
theorem dX11_wrongIn_20 : decode cX11_wrongIn 20 = .ok (.aload_n 0, 1) := by decide +kernel
theorem dX11_wrongIn_21 : decode cX11_wrongIn 21 = .ok (.getfield 249, 3) := by decide +kernel
theorem dX11_wrongIn_24 : decode cX11_wrongIn 24 = .ok (.if_icmp .ge 85, 3) := by decide +kernel
theorem dX11_wrongIn_27 : decode cX11_wrongIn 27 = .ok (.iconst 2, 1) := by decide +kernel
theorem dX11_wrongIn_28 : decode cX11_wrongIn 28 = .ok (.iload_n 3, 1) := by decide +kernel
theorem dX11_wrongIn_29 : decode cX11_wrongIn 29 = .ok (.imul, 1) := by decide +kernel
theorem dX11_wrongIn_30 : decode cX11_wrongIn 30 = .ok (.iconst 1, 1) := by decide +kernel
theorem dX11_wrongIn_31 : decode cX11_wrongIn 31 = .ok (.iadd, 1) := by decide +kernel
theorem dX11_wrongIn_32 : decode cX11_wrongIn 32 = .ok (.aload_n 0, 1) := by decide +kernel
theorem dX11_wrongIn_33 : decode cX11_wrongIn 33 = .ok (.getfield 102, 3) := by decide +kernel
theorem dX11_wrongIn_36 : decode cX11_wrongIn 36 = .ok (.iload_n 1, 1) := by decide +kernel
theorem dX11_wrongIn_37 : decode cX11_wrongIn 37 = .ok (.iaload, 1) := by decide +kernel
theorem dX11_wrongIn_38 : decode cX11_wrongIn 38 = .ok (.if_icmp .ge 11, 3) := by decide +kernel
theorem dX11_wrongIn_41 : decode cX11_wrongIn 41 = .ok (.iload_n 3, 1) := by decide +kernel
theorem dX11_wrongIn_42 : decode cX11_wrongIn 42 = .ok (.aload_n 0, 1) := by decide +kernel
theorem dX11_wrongIn_43 : decode cX11_wrongIn 43 = .ok (.getfield 249, 3) := by decide +kernel
theorem dX11_wrongIn_46 : decode cX11_wrongIn 46 = .ok (.if_icmp .lt 5, 3) := by decide +kernel
theorem dX11_wrongIn_49 : decode cX11_wrongIn 49 = .ok (.iload_n 3, 1) := by decide +kernel
theorem dX11_wrongIn_50 : decode cX11_wrongIn 50 = .ok (.ireturn, 1) := by decide +kernel
theorem dX11_wrongIn_51 : decode cX11_wrongIn 51 = .ok (.aload_n 0, 1) := by decide +kernel
theorem dX11_wrongIn_52 : decode cX11_wrongIn 52 = .ok (.getfield 105, 3) := by decide +kernel
theorem dX11_wrongIn_55 : decode cX11_wrongIn 55 = .ok (.bipush 60, 2) := by decide +kernel
theorem dX11_wrongIn_57 : decode cX11_wrongIn 57 = .ok (.iload_n 1, 1) := by decide +kernel
theorem dX11_wrongIn_58 : decode cX11_wrongIn 58 = .ok (.imul, 1) := by decide +kernel
theorem dX11_wrongIn_59 : decode cX11_wrongIn 59 = .ok (.iconst 2, 1) := by decide +kernel
theorem dX11_wrongIn_60 : decode cX11_wrongIn 60 = .ok (.iload_n 3, 1) := by decide +kernel
theorem dX11_wrongIn_61 : decode cX11_wrongIn 61 = .ok (.imul, 1) := by decide +kernel
theorem dX11_wrongIn_62 : decode cX11_wrongIn 62 = .ok (.iadd, 1) := by decide +kernel
theorem dX11_wrongIn_63 : decode cX11_wrongIn 63 = .ok (.laload, 1) := by decide +kernel
theorem dX11_wrongIn_64 : decode cX11_wrongIn 64 = .ok (.aload_n 0, 1) := by decide +kernel
theorem dX11_wrongIn_65 : decode cX11_wrongIn 65 = .ok (.getfield 75, 3) := by decide +kernel
theorem dX11_wrongIn_68 : decode cX11_wrongIn 68 = .ok (.iload_n 3, 1) := by decide +kernel
theorem dX11_wrongIn_69 : decode cX11_wrongIn 69 = .ok (.iaload, 1) := by decide +kernel
theorem dX11_wrongIn_70 : decode cX11_wrongIn 70 = .ok (.i2l, 1) := by decide +kernel
theorem dX11_wrongIn_71 : decode cX11_wrongIn 71 = .ok (.lcmp, 1) := by decide +kernel
theorem dX11_wrongIn_72 : decode cX11_wrongIn 72 = .ok (.ifCond .ne 29, 3) := by decide +kernel
theorem dX11_wrongIn_75 : decode cX11_wrongIn 75 = .ok (.aload_n 0, 1) := by decide +kernel
theorem dX11_wrongIn_76 : decode cX11_wrongIn 76 = .ok (.getfield 105, 3) := by decide +kernel
theorem dX11_wrongIn_79 : decode cX11_wrongIn 79 = .ok (.bipush 60, 2) := by decide +kernel
theorem dX11_wrongIn_81 : decode cX11_wrongIn 81 = .ok (.iload_n 1, 1) := by decide +kernel
theorem dX11_wrongIn_82 : decode cX11_wrongIn 82 = .ok (.imul, 1) := by decide +kernel
theorem dX11_wrongIn_83 : decode cX11_wrongIn 83 = .ok (.iconst 2, 1) := by decide +kernel
theorem dX11_wrongIn_84 : decode cX11_wrongIn 84 = .ok (.iload_n 3, 1) := by decide +kernel
theorem dX11_wrongIn_85 : decode cX11_wrongIn 85 = .ok (.imul, 1) := by decide +kernel
theorem dX11_wrongIn_86 : decode cX11_wrongIn 86 = .ok (.iadd, 1) := by decide +kernel
theorem dX11_wrongIn_87 : decode cX11_wrongIn 87 = .ok (.iconst 1, 1) := by decide +kernel
theorem dX11_wrongIn_88 : decode cX11_wrongIn 88 = .ok (.iadd, 1) := by decide +kernel
theorem dX11_wrongIn_89 : decode cX11_wrongIn 89 = .ok (.laload, 1) := by decide +kernel
theorem dX11_wrongIn_90 : decode cX11_wrongIn 90 = .ok (.aload_n 0, 1) := by decide +kernel
theorem dX11_wrongIn_91 : decode cX11_wrongIn 91 = .ok (.getfield 81, 3) := by decide +kernel
theorem dX11_wrongIn_94 : decode cX11_wrongIn 94 = .ok (.iload_n 3, 1) := by decide +kernel
theorem dX11_wrongIn_95 : decode cX11_wrongIn 95 = .ok (.iaload, 1) := by decide +kernel
theorem dX11_wrongIn_96 : decode cX11_wrongIn 96 = .ok (.i2l, 1) := by decide +kernel
theorem dX11_wrongIn_97 : decode cX11_wrongIn 97 = .ok (.lcmp, 1) := by decide +kernel
theorem dX11_wrongIn_98 : decode cX11_wrongIn 98 = .ok (.ifCond .eq 5, 3) := by decide +kernel
theorem dX11_wrongIn_101 : decode cX11_wrongIn 101 = .ok (.iload_n 3, 1) := by decide +kernel
theorem dX11_wrongIn_102 : decode cX11_wrongIn 102 = .ok (.ireturn, 1) := by decide +kernel
theorem dX11_wrongIn_103 : decode cX11_wrongIn 103 = .ok (.iinc 3 1, 3) := by decide +kernel
theorem dX11_wrongIn_106 : decode cX11_wrongIn 106 = .ok (.goto (-99), 3) := by decide +kernel
theorem dX11_wrongIn_109 : decode cX11_wrongIn 109 = .ok (.bipush (-2), 2) := by decide +kernel
theorem dX11_wrongIn_111 : decode cX11_wrongIn 111 = .ok (.ireturn, 1) := by decide +kernel
theorem dX11_judge_0 : decode cX11_judge 0 = .ok (.iload_n 1, 1) := by decide +kernel
theorem dX11_judge_1 : decode cX11_judge 1 = .ok (.invokestatic 129, 3) := by decide +kernel
theorem dX11_judge_4 : decode cX11_judge 4 = .ok (.ifCond .eq 11, 3) := by decide +kernel
theorem dX11_judge_7 : decode cX11_judge 7 = .ok (.aload_n 0, 1) := by decide +kernel
theorem dX11_judge_8 : decode cX11_judge 8 = .ok (.iload_n 2, 1) := by decide +kernel
theorem dX11_judge_9 : decode cX11_judge 9 = .ok (.invokevirtual 284, 3) := by decide +kernel
theorem dX11_judge_12 : decode cX11_judge 12 = .ok (.ifCond .ne 5, 3) := by decide +kernel
theorem dX11_judge_15 : decode cX11_judge 15 = .ok (.iconst (-1), 1) := by decide +kernel
theorem dX11_judge_16 : decode cX11_judge 16 = .ok (.ireturn, 1) := by decide +kernel
theorem dX11_judge_17 : decode cX11_judge 17 = .ok (.aload_n 0, 1) := by decide +kernel
theorem dX11_judge_18 : decode cX11_judge 18 = .ok (.iload_n 1, 1) := by decide +kernel
theorem dX11_judge_19 : decode cX11_judge 19 = .ok (.invokevirtual 329, 3) := by decide +kernel
theorem dX11_judge_22 : decode cX11_judge 22 = .ok (.ifCond .ge 11, 3) := by decide +kernel
theorem dX11_judge_25 : decode cX11_judge 25 = .ok (.aload_n 0, 1) := by decide +kernel
theorem dX11_judge_26 : decode cX11_judge 26 = .ok (.iload_n 1, 1) := by decide +kernel
theorem dX11_judge_27 : decode cX11_judge 27 = .ok (.invokevirtual 329, 3) := by decide +kernel
theorem dX11_judge_30 : decode cX11_judge 30 = .ok (.goto 9, 3) := by decide +kernel
theorem dX11_judge_33 : decode cX11_judge 33 = .ok (.aload_n 0, 1) := by decide +kernel
theorem dX11_judge_34 : decode cX11_judge 34 = .ok (.iload_n 1, 1) := by decide +kernel
theorem dX11_judge_35 : decode cX11_judge 35 = .ok (.iload_n 2, 1) := by decide +kernel
theorem dX11_judge_36 : decode cX11_judge 36 = .ok (.invokevirtual 332, 3) := by decide +kernel
theorem dX11_judge_39 : decode cX11_judge 39 = .ok (.ireturn, 1) := by decide +kernel
theorem dX11_which_0 : decode cX11_which 0 = .ok (.iload_n 1, 1) := by decide +kernel
theorem dX11_which_1 : decode cX11_which 1 = .ok (.invokestatic 129, 3) := by decide +kernel
theorem dX11_which_4 : decode cX11_which 4 = .ok (.ifCond .eq 12, 3) := by decide +kernel
theorem dX11_which_7 : decode cX11_which 7 = .ok (.iload_n 2, 1) := by decide +kernel
theorem dX11_which_8 : decode cX11_which 8 = .ok (.iconst 0, 1) := by decide +kernel
theorem dX11_which_9 : decode cX11_which 9 = .ok (.iconst 2, 1) := by decide +kernel
theorem dX11_which_10 : decode cX11_which 10 = .ok (.invokestatic 118, 3) := by decide +kernel
theorem dX11_which_13 : decode cX11_which 13 = .ok (.ifCond .ne 5, 3) := by decide +kernel
theorem dX11_which_16 : decode cX11_which 16 = .ok (.iconst (-1), 1) := by decide +kernel
theorem dX11_which_17 : decode cX11_which 17 = .ok (.ireturn, 1) := by decide +kernel
theorem dX11_which_18 : decode cX11_which 18 = .ok (.aload_n 0, 1) := by decide +kernel
theorem dX11_which_19 : decode cX11_which 19 = .ok (.iload_n 1, 1) := by decide +kernel
theorem dX11_which_20 : decode cX11_which 20 = .ok (.invokevirtual 329, 3) := by decide +kernel
theorem dX11_which_23 : decode cX11_which 23 = .ok (.ifCond .ge 9, 3) := by decide +kernel
theorem dX11_which_26 : decode cX11_which 26 = .ok (.aload_n 0, 1) := by decide +kernel
theorem dX11_which_27 : decode cX11_which 27 = .ok (.iload_n 1, 1) := by decide +kernel
theorem dX11_which_28 : decode cX11_which 28 = .ok (.invokevirtual 329, 3) := by decide +kernel
theorem dX11_which_31 : decode cX11_which 31 = .ok (.ireturn, 1) := by decide +kernel
theorem dX11_which_32 : decode cX11_which 32 = .ok (.iconst 0, 1) := by decide +kernel
theorem dX11_which_33 : decode cX11_which 33 = .ok (.istore_n 3, 1) := by decide +kernel
theorem dX11_which_34 : decode cX11_which 34 = .ok (.bipush (-2), 2) := by decide +kernel
theorem dX11_which_36 : decode cX11_which 36 = .ok (.istore 4, 2) := by decide +kernel
theorem dX11_which_38 : decode cX11_which 38 = .ok (.aload_n 0, 1) := by decide +kernel
theorem dX11_which_39 : decode cX11_which 39 = .ok (.invokevirtual 262, 3) := by decide +kernel
theorem dX11_which_42 : decode cX11_which 42 = .ok (.istore 5, 2) := by decide +kernel
theorem dX11_which_44 : decode cX11_which 44 = .ok (.aload_n 0, 1) := by decide +kernel
theorem dX11_which_45 : decode cX11_which 45 = .ok (.invokevirtual 262, 3) := by decide +kernel
theorem dX11_which_48 : decode cX11_which 48 = .ok (.istore 6, 2) := by decide +kernel
theorem dX11_which_50 : decode cX11_which 50 = .ok (.iload 6, 2) := by decide +kernel
theorem dX11_which_52 : decode cX11_which 52 = .ok (.ifCond .lt 38, 3) := by decide +kernel
theorem dX11_which_55 : decode cX11_which 55 = .ok (.aload_n 0, 1) := by decide +kernel
theorem dX11_which_56 : decode cX11_which 56 = .ok (.iload_n 1, 1) := by decide +kernel
theorem dX11_which_57 : decode cX11_which 57 = .ok (.iload 6, 2) := by decide +kernel
theorem dX11_which_59 : decode cX11_which 59 = .ok (.invokevirtual 332, 3) := by decide +kernel
theorem dX11_which_62 : decode cX11_which 62 = .ok (.bipush (-2), 2) := by decide +kernel
theorem dX11_which_64 : decode cX11_which 64 = .ok (.if_icmp .eq 6, 3) := by decide +kernel
theorem dX11_which_67 : decode cX11_which 67 = .ok (.goto 17, 3) := by decide +kernel
theorem dX11_which_70 : decode cX11_which 70 = .ok (.iinc 3 1, 3) := by decide +kernel
theorem dX11_which_73 : decode cX11_which 73 = .ok (.iload 6, 2) := by decide +kernel
theorem dX11_which_75 : decode cX11_which 75 = .ok (.istore 4, 2) := by decide +kernel
theorem dX11_which_77 : decode cX11_which 77 = .ok (.iload 5, 2) := by decide +kernel
theorem dX11_which_79 : decode cX11_which 79 = .ok (.iload 6, 2) := by decide +kernel
theorem dX11_which_81 : decode cX11_which 81 = .ok (.iand, 1) := by decide +kernel
theorem dX11_which_82 : decode cX11_which 82 = .ok (.istore 5, 2) := by decide +kernel
theorem dX11_which_84 : decode cX11_which 84 = .ok (.iinc 6 (-1), 3) := by decide +kernel
theorem dX11_which_87 : decode cX11_which 87 = .ok (.goto (-37), 3) := by decide +kernel
theorem dX11_which_90 : decode cX11_which 90 = .ok (.iload_n 2, 1) := by decide +kernel
theorem dX11_which_91 : decode cX11_which 91 = .ok (.ifCond .ne 7, 3) := by decide +kernel
theorem dX11_which_94 : decode cX11_which 94 = .ok (.iload_n 3, 1) := by decide +kernel
theorem dX11_which_95 : decode cX11_which 95 = .ok (.goto 23, 3) := by decide +kernel
theorem dX11_which_98 : decode cX11_which 98 = .ok (.iload_n 2, 1) := by decide +kernel
theorem dX11_which_99 : decode cX11_which 99 = .ok (.iconst 1, 1) := by decide +kernel
theorem dX11_which_100 : decode cX11_which 100 = .ok (.if_icmp .ne 8, 3) := by decide +kernel
theorem dX11_which_103 : decode cX11_which 103 = .ok (.iload 4, 2) := by decide +kernel
theorem dX11_which_105 : decode cX11_which 105 = .ok (.goto 13, 3) := by decide +kernel
