theorem dX11_compared_45 : decode cX11_compared 45 = .ok (.aload_n 0, 1) := by decide +kernel
theorem dX11_compared_46 : decode cX11_compared 46 = .ok (.invokevirtual 209, 3) := by decide +kernel
theorem dX11_compared_49 : decode cX11_compared 49 = .ok (.aload_n 0, 1) := by decide +kernel
theorem dX11_compared_50 : decode cX11_compared 50 = .ok (.iload_n 1, 1) := by decide +kernel
theorem dX11_compared_51 : decode cX11_compared 51 = .ok (.iconst 0, 1) := by decide +kernel
theorem dX11_compared_52 : decode cX11_compared 52 = .ok (.invokevirtual 185, 3) := by decide +kernel
theorem dX11_compared_55 : decode cX11_compared 55 = .ok (.return_, 1) := by decide +kernel
theorem dX11_both_0 : decode cX11_both 0 = .ok (.aload_n 0, 1) := by decide +kernel
theorem dX11_both_1 : decode cX11_both 1 = .ok (.invokevirtual 212, 3) := by decide +kernel
theorem dX11_both_4 : decode cX11_both 4 = .ok (.aload_n 0, 1) := by decide +kernel
theorem dX11_both_5 : decode cX11_both 5 = .ok (.getfield 169, 3) := by decide +kernel
theorem dX11_both_8 : decode cX11_both 8 = .ok (.ifCond .ge 36, 3) := by decide +kernel
theorem dX11_both_11 : decode cX11_both 11 = .ok (.aload_n 0, 1) := by decide +kernel
theorem dX11_both_12 : decode cX11_both 12 = .ok (.invokevirtual 181, 3) := by decide +kernel
theorem dX11_both_15 : decode cX11_both 15 = .ok (.bipush 38, 2) := by decide +kernel
theorem dX11_both_17 : decode cX11_both 17 = .ok (.if_icmp .ne 27, 3) := by decide +kernel
theorem dX11_both_20 : decode cX11_both 20 = .ok (.aload_n 0, 1) := by decide +kernel
theorem dX11_both_21 : decode cX11_both 21 = .ok (.dup, 1) := by decide +kernel
theorem dX11_both_22 : decode cX11_both 22 = .ok (.getfield 166, 3) := by decide +kernel
theorem dX11_both_25 : decode cX11_both 25 = .ok (.iconst 1, 1) := by decide +kernel
theorem dX11_both_26 : decode cX11_both 26 = .ok (.iadd, 1) := by decide +kernel
theorem dX11_both_27 : decode cX11_both 27 = .ok (.putfield 166, 3) := by decide +kernel
theorem dX11_both_30 : decode cX11_both 30 = .ok (.aload_n 0, 1) := by decide +kernel
theorem dX11_both_31 : decode cX11_both 31 = .ok (.invokevirtual 212, 3) := by decide +kernel
theorem dX11_both_34 : decode cX11_both 34 = .ok (.aload_n 0, 1) := by decide +kernel
theorem dX11_both_35 : decode cX11_both 35 = .ok (.bipush 38, 2) := by decide +kernel
theorem dX11_both_37 : decode cX11_both 37 = .ok (.iconst 0, 1) := by decide +kernel
theorem dX11_both_38 : decode cX11_both 38 = .ok (.invokevirtual 185, 3) := by decide +kernel
theorem dX11_both_41 : decode cX11_both 41 = .ok (.goto (-37), 3) := by decide +kernel
theorem dX11_both_44 : decode cX11_both 44 = .ok (.return_, 1) := by decide +kernel
theorem dX11_either_0 : decode cX11_either 0 = .ok (.aload_n 0, 1) := by decide +kernel
theorem dX11_either_1 : decode cX11_either 1 = .ok (.invokevirtual 215, 3) := by decide +kernel
theorem dX11_either_4 : decode cX11_either 4 = .ok (.aload_n 0, 1) := by decide +kernel
theorem dX11_either_5 : decode cX11_either 5 = .ok (.getfield 169, 3) := by decide +kernel
theorem dX11_either_8 : decode cX11_either 8 = .ok (.ifCond .ge 36, 3) := by decide +kernel
theorem dX11_either_11 : decode cX11_either 11 = .ok (.aload_n 0, 1) := by decide +kernel
theorem dX11_either_12 : decode cX11_either 12 = .ok (.invokevirtual 181, 3) := by decide +kernel
theorem dX11_either_15 : decode cX11_either 15 = .ok (.bipush 124, 2) := by decide +kernel
theorem dX11_either_17 : decode cX11_either 17 = .ok (.if_icmp .ne 27, 3) := by decide +kernel
theorem dX11_either_20 : decode cX11_either 20 = .ok (.aload_n 0, 1) := by decide +kernel
theorem dX11_either_21 : decode cX11_either 21 = .ok (.dup, 1) := by decide +kernel
theorem dX11_either_22 : decode cX11_either 22 = .ok (.getfield 166, 3) := by decide +kernel
theorem dX11_either_25 : decode cX11_either 25 = .ok (.iconst 1, 1) := by decide +kernel
theorem dX11_either_26 : decode cX11_either 26 = .ok (.iadd, 1) := by decide +kernel
theorem dX11_either_27 : decode cX11_either 27 = .ok (.putfield 166, 3) := by decide +kernel
theorem dX11_either_30 : decode cX11_either 30 = .ok (.aload_n 0, 1) := by decide +kernel
theorem dX11_either_31 : decode cX11_either 31 = .ok (.invokevirtual 215, 3) := by decide +kernel
theorem dX11_either_34 : decode cX11_either 34 = .ok (.aload_n 0, 1) := by decide +kernel
theorem dX11_either_35 : decode cX11_either 35 = .ok (.bipush 124, 2) := by decide +kernel
theorem dX11_either_37 : decode cX11_either 37 = .ok (.iconst 0, 1) := by decide +kernel
theorem dX11_either_38 : decode cX11_either 38 = .ok (.invokevirtual 185, 3) := by decide +kernel
theorem dX11_either_41 : decode cX11_either 41 = .ok (.goto (-37), 3) := by decide +kernel
theorem dX11_either_44 : decode cX11_either 44 = .ok (.return_, 1) := by decide +kernel
theorem dX11_line_0 : decode cX11_line 0 = .ok (.bipush 61, 2) := by decide +kernel
theorem dX11_line_2 : decode cX11_line 2 = .ok (.aload_n 0, 1) := by decide +kernel
theorem dX11_line_3 : decode cX11_line 3 = .ok (.getfield 59, 3) := by decide +kernel
theorem dX11_line_6 : decode cX11_line 6 = .ok (.iconst 1, 1) := by decide +kernel
theorem dX11_line_7 : decode cX11_line 7 = .ok (.iaload, 1) := by decide +kernel
theorem dX11_line_8 : decode cX11_line 8 = .ok (.iadd, 1) := by decide +kernel
theorem dX11_line_9 : decode cX11_line 9 = .ok (.istore_n 1, 1) := by decide +kernel
theorem dX11_line_10 : decode cX11_line 10 = .ok (.aload_n 0, 1) := by decide +kernel
theorem dX11_line_11 : decode cX11_line 11 = .ok (.getfield 62, 3) := by decide +kernel
theorem dX11_line_14 : decode cX11_line 14 = .ok (.iload_n 1, 1) := by decide +kernel
theorem dX11_line_15 : decode cX11_line 15 = .ok (.aload_n 0, 1) := by decide +kernel
theorem dX11_line_16 : decode cX11_line 16 = .ok (.getfield 172, 3) := by decide +kernel
theorem dX11_line_19 : decode cX11_line 19 = .ok (.i2s, 1) := by decide +kernel
theorem dX11_line_20 : decode cX11_line 20 = .ok (.sastore, 1) := by decide +kernel
theorem dX11_line_21 : decode cX11_line 21 = .ok (.aload_n 0, 1) := by decide +kernel
theorem dX11_line_22 : decode cX11_line 22 = .ok (.invokevirtual 200, 3) := by decide +kernel
theorem dX11_line_25 : decode cX11_line 25 = .ok (.aload_n 0, 1) := by decide +kernel
theorem dX11_line_26 : decode cX11_line 26 = .ok (.getfield 169, 3) := by decide +kernel
theorem dX11_line_29 : decode cX11_line 29 = .ok (.ifCond .ge 37, 3) := by decide +kernel
theorem dX11_line_32 : decode cX11_line 32 = .ok (.aload_n 0, 1) := by decide +kernel
theorem dX11_line_33 : decode cX11_line 33 = .ok (.invokevirtual 181, 3) := by decide +kernel
theorem dX11_line_36 : decode cX11_line 36 = .ok (.bipush 63, 2) := by decide +kernel
theorem dX11_line_38 : decode cX11_line 38 = .ok (.if_icmp .ne 28, 3) := by decide +kernel
theorem dX11_line_41 : decode cX11_line 41 = .ok (.aload_n 0, 1) := by decide +kernel
theorem dX11_line_42 : decode cX11_line 42 = .ok (.dup, 1) := by decide +kernel
theorem dX11_line_43 : decode cX11_line 43 = .ok (.getfield 166, 3) := by decide +kernel
theorem dX11_line_46 : decode cX11_line 46 = .ok (.iconst 1, 1) := by decide +kernel
theorem dX11_line_47 : decode cX11_line 47 = .ok (.iadd, 1) := by decide +kernel
theorem dX11_line_48 : decode cX11_line 48 = .ok (.putfield 166, 3) := by decide +kernel
theorem dX11_line_51 : decode cX11_line 51 = .ok (.aload_n 0, 1) := by decide +kernel
theorem dX11_line_52 : decode cX11_line 52 = .ok (.getfield 62, 3) := by decide +kernel
theorem dX11_line_55 : decode cX11_line 55 = .ok (.iload_n 1, 1) := by decide +kernel
theorem dX11_line_56 : decode cX11_line 56 = .ok (.aload_n 0, 1) := by decide +kernel
theorem dX11_line_57 : decode cX11_line 57 = .ok (.getfield 172, 3) := by decide +kernel
theorem dX11_line_60 : decode cX11_line 60 = .ok (.i2s, 1) := by decide +kernel
theorem dX11_line_61 : decode cX11_line 61 = .ok (.sastore, 1) := by decide +kernel
theorem dX11_line_62 : decode cX11_line 62 = .ok (.aload_n 0, 1) := by decide +kernel
theorem dX11_line_63 : decode cX11_line 63 = .ok (.invokevirtual 200, 3) := by decide +kernel
theorem dX11_line_66 : decode cX11_line 66 = .ok (.aload_n 0, 1) := by decide +kernel
theorem dX11_line_67 : decode cX11_line 67 = .ok (.getfield 66, 3) := by decide +kernel
theorem dX11_line_70 : decode cX11_line 70 = .ok (.iload_n 1, 1) := by decide +kernel
theorem dX11_line_71 : decode cX11_line 71 = .ok (.aload_n 0, 1) := by decide +kernel
theorem dX11_line_72 : decode cX11_line 72 = .ok (.getfield 172, 3) := by decide +kernel
theorem dX11_line_75 : decode cX11_line 75 = .ok (.i2s, 1) := by decide +kernel
theorem dX11_line_76 : decode cX11_line 76 = .ok (.sastore, 1) := by decide +kernel
theorem dX11_line_77 : decode cX11_line 77 = .ok (.aload_n 0, 1) := by decide +kernel
theorem dX11_line_78 : decode cX11_line 78 = .ok (.getfield 59, 3) := by decide +kernel
theorem dX11_line_81 : decode cX11_line 81 = .ok (.iconst 1, 1) := by decide +kernel
theorem dX11_line_82 : decode cX11_line 82 = .ok (.dup2, 1) := by decide +kernel
theorem dX11_line_83 : decode cX11_line 83 = .ok (.iaload, 1) := by decide +kernel
theorem dX11_line_84 : decode cX11_line 84 = .ok (.iconst 1, 1) := by decide +kernel
theorem dX11_line_85 : decode cX11_line 85 = .ok (.iadd, 1) := by decide +kernel
theorem dX11_line_86 : decode cX11_line 86 = .ok (.iastore, 1) := by decide +kernel
theorem dX11_line_87 : decode cX11_line 87 = .ok (.return_, 1) := by decide +kernel
theorem dX11_readText_0 : decode cX11_readText 0 = .ok (.aload_n 0, 1) := by decide +kernel
theorem dX11_readText_1 : decode cX11_readText 1 = .ok (.iconst 0, 1) := by decide +kernel
theorem dX11_readText_2 : decode cX11_readText 2 = .ok (.putfield 166, 3) := by decide +kernel
theorem dX11_readText_5 : decode cX11_readText 5 = .ok (.aload_n 0, 1) := by decide +kernel
theorem dX11_readText_6 : decode cX11_readText 6 = .ok (.iconst (-1), 1) := by decide +kernel
theorem dX11_readText_7 : decode cX11_readText 7 = .ok (.putfield 169, 3) := by decide +kernel
theorem dX11_readText_10 : decode cX11_readText 10 = .ok (.aload_n 0, 1) := by decide +kernel
theorem dX11_readText_11 : decode cX11_readText 11 = .ok (.iconst 0, 1) := by decide +kernel
theorem dX11_readText_12 : decode cX11_readText 12 = .ok (.putfield 175, 3) := by decide +kernel
theorem dX11_readText_15 : decode cX11_readText 15 = .ok (.aload_n 0, 1) := by decide +kernel
theorem dX11_readText_16 : decode cX11_readText 16 = .ok (.iconst 0, 1) := by decide +kernel
theorem dX11_readText_17 : decode cX11_readText 17 = .ok (.putfield 172, 3) := by decide +kernel
theorem dX11_readText_20 : decode cX11_readText 20 = .ok (.aload_n 0, 1) := by decide +kernel
theorem dX11_readText_21 : decode cX11_readText 21 = .ok (.getfield 59, 3) := by decide +kernel
theorem dX11_readText_24 : decode cX11_readText 24 = .ok (.iconst 1, 1) := by decide +kernel
theorem dX11_readText_25 : decode cX11_readText 25 = .ok (.iconst 0, 1) := by decide +kernel
theorem dX11_readText_26 : decode cX11_readText 26 = .ok (.iastore, 1) := by decide +kernel
theorem dX11_readText_27 : decode cX11_readText 27 = .ok (.aload_n 0, 1) := by decide +kernel
theorem dX11_readText_28 : decode cX11_readText 28 = .ok (.invokevirtual 218, 3) := by decide +kernel
theorem dX11_readText_31 : decode cX11_readText 31 = .ok (.aload_n 0, 1) := by decide +kernel
theorem dX11_readText_32 : decode cX11_readText 32 = .ok (.getfield 169, 3) := by decide +kernel
theorem dX11_readText_35 : decode cX11_readText 35 = .ok (.ifCond .ge 29, 3) := by decide +kernel
theorem dX11_readText_38 : decode cX11_readText 38 = .ok (.aload_n 0, 1) := by decide +kernel
theorem dX11_readText_39 : decode cX11_readText 39 = .ok (.invokevirtual 181, 3) := by decide +kernel
theorem dX11_readText_42 : decode cX11_readText 42 = .ok (.bipush 59, 2) := by decide +kernel
theorem dX11_readText_44 : decode cX11_readText 44 = .ok (.if_icmp .ne 20, 3) := by decide +kernel
theorem dX11_readText_47 : decode cX11_readText 47 = .ok (.aload_n 0, 1) := by decide +kernel
theorem dX11_readText_48 : decode cX11_readText 48 = .ok (.dup, 1) := by decide +kernel
theorem dX11_readText_49 : decode cX11_readText 49 = .ok (.getfield 166, 3) := by decide +kernel
theorem dX11_readText_52 : decode cX11_readText 52 = .ok (.iconst 1, 1) := by decide +kernel
theorem dX11_readText_53 : decode cX11_readText 53 = .ok (.iadd, 1) := by decide +kernel
theorem dX11_readText_54 : decode cX11_readText 54 = .ok (.putfield 166, 3) := by decide +kernel
theorem dX11_readText_57 : decode cX11_readText 57 = .ok (.aload_n 0, 1) := by decide +kernel
theorem dX11_readText_58 : decode cX11_readText 58 = .ok (.invokevirtual 218, 3) := by decide +kernel
theorem dX11_readText_61 : decode cX11_readText 61 = .ok (.goto (-30), 3) := by decide +kernel
theorem dX11_readText_64 : decode cX11_readText 64 = .ok (.aload_n 0, 1) := by decide +kernel
theorem dX11_readText_65 : decode cX11_readText 65 = .ok (.getfield 169, 3) := by decide +kernel
theorem dX11_readText_68 : decode cX11_readText 68 = .ok (.ifCond .ge 18, 3) := by decide +kernel
theorem dX11_readText_71 : decode cX11_readText 71 = .ok (.aload_n 0, 1) := by decide +kernel
theorem dX11_readText_72 : decode cX11_readText 72 = .ok (.getfield 166, 3) := by decide +kernel
theorem dX11_readText_75 : decode cX11_readText 75 = .ok (.aload_n 0, 1) := by decide +kernel
theorem dX11_readText_76 : decode cX11_readText 76 = .ok (.getfield 163, 3) := by decide +kernel
theorem dX11_readText_79 : decode cX11_readText 79 = .ok (.if_icmp .ge 7, 3) := by decide +kernel
theorem dX11_readText_82 : decode cX11_readText 82 = .ok (.aload_n 0, 1) := by decide +kernel
theorem dX11_readText_83 : decode cX11_readText 83 = .ok (.invokevirtual 178, 3) := by decide +kernel
theorem dX11_readText_86 : decode cX11_readText 86 = .ok (.aload_n 0, 1) := by decide +kernel
theorem dX11_readText_87 : decode cX11_readText 87 = .ok (.iconst 0, 1) := by decide +kernel
theorem dX11_readText_88 : decode cX11_readText 88 = .ok (.putfield 163, 3) := by decide +kernel
theorem dX11_readText_91 : decode cX11_readText 91 = .ok (.aload_n 0, 1) := by decide +kernel
theorem dX11_readText_92 : decode cX11_readText 92 = .ok (.getfield 169, 3) := by decide +kernel
theorem dX11_readText_95 : decode cX11_readText 95 = .ok (.ifCond .lt 8, 3) := by decide +kernel
theorem dX11_readText_98 : decode cX11_readText 98 = .ok (.aload_n 0, 1) := by decide +kernel
theorem dX11_readText_99 : decode cX11_readText 99 = .ok (.getfield 169, 3) := by decide +kernel
theorem dX11_readText_102 : decode cX11_readText 102 = .ok (.ireturn, 1) := by decide +kernel
theorem dX11_readText_103 : decode cX11_readText 103 = .ok (.iconst 0, 1) := by decide +kernel
theorem dX11_readText_104 : decode cX11_readText 104 = .ok (.istore_n 2, 1) := by decide +kernel
theorem dX11_readText_105 : decode cX11_readText 105 = .ok (.iload_n 2, 1) := by decide +kernel
theorem dX11_readText_106 : decode cX11_readText 106 = .ok (.aload_n 0, 1) := by decide +kernel
theorem dX11_readText_107 : decode cX11_readText 107 = .ok (.getfield 172, 3) := by decide +kernel
theorem dX11_readText_110 : decode cX11_readText 110 = .ok (.if_icmp .ge 53, 3) := by decide +kernel
theorem dX11_readText_113 : decode cX11_readText 113 = .ok (.aload_n 0, 1) := by decide +kernel
theorem dX11_readText_114 : decode cX11_readText 114 = .ok (.getfield 53, 3) := by decide +kernel
theorem dX11_readText_117 : decode cX11_readText 117 = .ok (.sipush 130, 3) := by decide +kernel
theorem dX11_readText_120 : decode cX11_readText 120 = .ok (.iload_n 1, 1) := by decide +kernel
theorem dX11_readText_121 : decode cX11_readText 121 = .ok (.imul, 1) := by decide +kernel
theorem dX11_readText_122 : decode cX11_readText 122 = .ok (.iload_n 2, 1) := by decide +kernel
theorem dX11_readText_123 : decode cX11_readText 123 = .ok (.iadd, 1) := by decide +kernel
theorem dX11_readText_124 : decode cX11_readText 124 = .ok (.aload_n 0, 1) := by decide +kernel
theorem dX11_readText_125 : decode cX11_readText 125 = .ok (.getfield 53, 3) := by decide +kernel
theorem dX11_readText_128 : decode cX11_readText 128 = .ok (.sipush 130, 3) := by decide +kernel
theorem dX11_readText_131 : decode cX11_readText 131 = .ok (.iload_n 2, 1) := by decide +kernel
theorem dX11_readText_132 : decode cX11_readText 132 = .ok (.iadd, 1) := by decide +kernel
theorem dX11_readText_133 : decode cX11_readText 133 = .ok (.baload, 1) := by decide +kernel
theorem dX11_readText_134 : decode cX11_readText 134 = .ok (.bastore, 1) := by decide +kernel
theorem dX11_readText_135 : decode cX11_readText 135 = .ok (.aload_n 0, 1) := by decide +kernel
theorem dX11_readText_136 : decode cX11_readText 136 = .ok (.getfield 56, 3) := by decide +kernel
theorem dX11_readText_139 : decode cX11_readText 139 = .ok (.sipush 130, 3) := by decide +kernel
theorem dX11_readText_142 : decode cX11_readText 142 = .ok (.iload_n 1, 1) := by decide +kernel
theorem dX11_readText_143 : decode cX11_readText 143 = .ok (.imul, 1) := by decide +kernel
theorem dX11_readText_144 : decode cX11_readText 144 = .ok (.iload_n 2, 1) := by decide +kernel
theorem dX11_readText_145 : decode cX11_readText 145 = .ok (.iadd, 1) := by decide +kernel
theorem dX11_readText_146 : decode cX11_readText 146 = .ok (.aload_n 0, 1) := by decide +kernel
theorem dX11_readText_147 : decode cX11_readText 147 = .ok (.getfield 56, 3) := by decide +kernel
theorem dX11_readText_150 : decode cX11_readText 150 = .ok (.sipush 130, 3) := by decide +kernel
theorem dX11_readText_153 : decode cX11_readText 153 = .ok (.iload_n 2, 1) := by decide +kernel
theorem dX11_readText_154 : decode cX11_readText 154 = .ok (.iadd, 1) := by decide +kernel
theorem dX11_readText_155 : decode cX11_readText 155 = .ok (.iaload, 1) := by decide +kernel
theorem dX11_readText_156 : decode cX11_readText 156 = .ok (.iastore, 1) := by decide +kernel
theorem dX11_readText_157 : decode cX11_readText 157 = .ok (.iinc 2 1, 3) := by decide +kernel
theorem dX11_readText_160 : decode cX11_readText 160 = .ok (.goto (-55), 3) := by decide +kernel
theorem dX11_readText_163 : decode cX11_readText 163 = .ok (.aload_n 0, 1) := by decide +kernel
theorem dX11_readText_164 : decode cX11_readText 164 = .ok (.getfield 59, 3) := by decide +kernel
theorem dX11_readText_167 : decode cX11_readText 167 = .ok (.iload_n 1, 1) := by decide +kernel
theorem dX11_readText_168 : decode cX11_readText 168 = .ok (.aload_n 0, 1) := by decide +kernel
theorem dX11_readText_169 : decode cX11_readText 169 = .ok (.getfield 59, 3) := by decide +kernel
theorem dX11_readText_172 : decode cX11_readText 172 = .ok (.iconst 1, 1) := by decide +kernel
theorem dX11_readText_173 : decode cX11_readText 173 = .ok (.iaload, 1) := by decide +kernel
theorem dX11_readText_174 : decode cX11_readText 174 = .ok (.iastore, 1) := by decide +kernel
theorem dX11_readText_175 : decode cX11_readText 175 = .ok (.iconst 0, 1) := by decide +kernel
theorem dX11_readText_176 : decode cX11_readText 176 = .ok (.istore_n 2, 1) := by decide +kernel
theorem dX11_readText_177 : decode cX11_readText 177 = .ok (.iload_n 2, 1) := by decide +kernel
theorem dX11_readText_178 : decode cX11_readText 178 = .ok (.aload_n 0, 1) := by decide +kernel
theorem dX11_readText_179 : decode cX11_readText 179 = .ok (.getfield 59, 3) := by decide +kernel
theorem dX11_readText_182 : decode cX11_readText 182 = .ok (.iload_n 1, 1) := by decide +kernel
theorem dX11_readText_183 : decode cX11_readText 183 = .ok (.iaload, 1) := by decide +kernel
theorem dX11_readText_184 : decode cX11_readText 184 = .ok (.if_icmp .ge 49, 3) := by decide +kernel
theorem dX11_readText_187 : decode cX11_readText 187 = .ok (.aload_n 0, 1) := by decide +kernel
theorem dX11_readText_188 : decode cX11_readText 188 = .ok (.getfield 62, 3) := by decide +kernel
theorem dX11_readText_191 : decode cX11_readText 191 = .ok (.bipush 61, 2) := by decide +kernel
theorem dX11_readText_193 : decode cX11_readText 193 = .ok (.iload_n 1, 1) := by decide +kernel
theorem dX11_readText_194 : decode cX11_readText 194 = .ok (.imul, 1) := by decide +kernel
theorem dX11_readText_195 : decode cX11_readText 195 = .ok (.iload_n 2, 1) := by decide +kernel
theorem dX11_readText_196 : decode cX11_readText 196 = .ok (.iadd, 1) := by decide +kernel
theorem dX11_readText_197 : decode cX11_readText 197 = .ok (.aload_n 0, 1) := by decide +kernel
theorem dX11_readText_198 : decode cX11_readText 198 = .ok (.getfield 62, 3) := by decide +kernel
theorem dX11_readText_201 : decode cX11_readText 201 = .ok (.bipush 61, 2) := by decide +kernel
theorem dX11_readText_203 : decode cX11_readText 203 = .ok (.iload_n 2, 1) := by decide +kernel
theorem dX11_readText_204 : decode cX11_readText 204 = .ok (.iadd, 1) := by decide +kernel
theorem dX11_readText_205 : decode cX11_readText 205 = .ok (.saload, 1) := by decide +kernel
theorem dX11_readText_206 : decode cX11_readText 206 = .ok (.sastore, 1) := by decide +kernel
theorem dX11_readText_207 : decode cX11_readText 207 = .ok (.aload_n 0, 1) := by decide +kernel
theorem dX11_readText_208 : decode cX11_readText 208 = .ok (.getfield 66, 3) := by decide +kernel
theorem dX11_readText_211 : decode cX11_readText 211 = .ok (.bipush 61, 2) := by decide +kernel
theorem dX11_readText_213 : decode cX11_readText 213 = .ok (.iload_n 1, 1) := by decide +kernel
theorem dX11_readText_214 : decode cX11_readText 214 = .ok (.imul, 1) := by decide +kernel
theorem dX11_readText_215 : decode cX11_readText 215 = .ok (.iload_n 2, 1) := by decide +kernel
theorem dX11_readText_216 : decode cX11_readText 216 = .ok (.iadd, 1) := by decide +kernel
theorem dX11_readText_217 : decode cX11_readText 217 = .ok (.aload_n 0, 1) := by decide +kernel
theorem dX11_readText_218 : decode cX11_readText 218 = .ok (.getfield 66, 3) := by decide +kernel
theorem dX11_readText_221 : decode cX11_readText 221 = .ok (.bipush 61, 2) := by decide +kernel
theorem dX11_readText_223 : decode cX11_readText 223 = .ok (.iload_n 2, 1) := by decide +kernel
theorem dX11_readText_224 : decode cX11_readText 224 = .ok (.iadd, 1) := by decide +kernel
theorem dX11_readText_225 : decode cX11_readText 225 = .ok (.saload, 1) := by decide +kernel
theorem dX11_readText_226 : decode cX11_readText 226 = .ok (.sastore, 1) := by decide +kernel
theorem dX11_readText_227 : decode cX11_readText 227 = .ok (.iinc 2 1, 3) := by decide +kernel
theorem dX11_readText_230 : decode cX11_readText 230 = .ok (.goto (-53), 3) := by decide +kernel
theorem dX11_readText_233 : decode cX11_readText 233 = .ok (.iconst (-1), 1) := by decide +kernel
theorem dX11_readText_234 : decode cX11_readText 234 = .ok (.ireturn, 1) := by decide +kernel
theorem dX11_twoOf_0 : decode cX11_twoOf 0 = .ok (.iload_n 0, 1) := by decide +kernel
theorem dX11_twoOf_1 : decode cX11_twoOf 1 = .ok (.tableswitch 217 37 62 #[153, 203, 217, 217, 217, 127, 119, 217, 123, 217, 131, 217, 217, 217, 217, 217, 217, 217, 217, 217, 217, 217, 217, 170, 181, 192], 119) := by decide +kernel
theorem dX11_twoOf_120 : decode cX11_twoOf 120 = .ok (.iload_n 1, 1) := by decide +kernel
theorem dX11_twoOf_121 : decode cX11_twoOf 121 = .ok (.iload_n 2, 1) := by decide +kernel
theorem dX11_twoOf_122 : decode cX11_twoOf 122 = .ok (.iadd, 1) := by decide +kernel
theorem dX11_twoOf_123 : decode cX11_twoOf 123 = .ok (.ireturn, 1) := by decide +kernel
theorem dX11_twoOf_124 : decode cX11_twoOf 124 = .ok (.iload_n 1, 1) := by decide +kernel
theorem dX11_twoOf_125 : decode cX11_twoOf 125 = .ok (.iload_n 2, 1) := by decide +kernel
theorem dX11_twoOf_126 : decode cX11_twoOf 126 = .ok (.isub, 1) := by decide +kernel
theorem dX11_twoOf_127 : decode cX11_twoOf 127 = .ok (.ireturn, 1) := by decide +kernel
theorem dX11_twoOf_128 : decode cX11_twoOf 128 = .ok (.iload_n 1, 1) := by decide +kernel
theorem dX11_twoOf_129 : decode cX11_twoOf 129 = .ok (.iload_n 2, 1) := by decide +kernel
theorem dX11_twoOf_130 : decode cX11_twoOf 130 = .ok (.imul, 1) := by decide +kernel
theorem dX11_twoOf_131 : decode cX11_twoOf 131 = .ok (.ireturn, 1) := by decide +kernel
theorem dX11_twoOf_132 : decode cX11_twoOf 132 = .ok (.iload_n 2, 1) := by decide +kernel
theorem dX11_twoOf_133 : decode cX11_twoOf 133 = .ok (.ifCond .ne 7, 3) := by decide +kernel
theorem dX11_twoOf_136 : decode cX11_twoOf 136 = .ok (.iconst 0, 1) := by decide +kernel
theorem dX11_twoOf_137 : decode cX11_twoOf 137 = .ok (.goto 16, 3) := by decide +kernel
theorem dX11_twoOf_140 : decode cX11_twoOf 140 = .ok (.iload_n 2, 1) := by decide +kernel
theorem dX11_twoOf_141 : decode cX11_twoOf 141 = .ok (.iconst (-1), 1) := by decide +kernel
theorem dX11_twoOf_142 : decode cX11_twoOf 142 = .ok (.if_icmp .ne 8, 3) := by decide +kernel
theorem dX11_twoOf_145 : decode cX11_twoOf 145 = .ok (.iload_n 1, 1) := by decide +kernel
theorem dX11_twoOf_146 : decode cX11_twoOf 146 = .ok (.ineg, 1) := by decide +kernel
theorem dX11_twoOf_147 : decode cX11_twoOf 147 = .ok (.goto 6, 3) := by decide +kernel
theorem dX11_twoOf_150 : decode cX11_twoOf 150 = .ok (.iload_n 1, 1) := by decide +kernel
theorem dX11_twoOf_151 : decode cX11_twoOf 151 = .ok (.iload_n 2, 1) := by decide +kernel
theorem dX11_twoOf_152 : decode cX11_twoOf 152 = .ok (.idiv, 1) := by decide +kernel
theorem dX11_twoOf_153 : decode cX11_twoOf 153 = .ok (.ireturn, 1) := by decide +kernel
theorem dX11_twoOf_154 : decode cX11_twoOf 154 = .ok (.iload_n 2, 1) := by decide +kernel
theorem dX11_twoOf_155 : decode cX11_twoOf 155 = .ok (.ifCond .eq 8, 3) := by decide +kernel
theorem dX11_twoOf_158 : decode cX11_twoOf 158 = .ok (.iload_n 2, 1) := by decide +kernel
theorem dX11_twoOf_159 : decode cX11_twoOf 159 = .ok (.iconst (-1), 1) := by decide +kernel
theorem dX11_twoOf_160 : decode cX11_twoOf 160 = .ok (.if_icmp .ne 7, 3) := by decide +kernel
theorem dX11_twoOf_163 : decode cX11_twoOf 163 = .ok (.iconst 0, 1) := by decide +kernel
theorem dX11_twoOf_164 : decode cX11_twoOf 164 = .ok (.goto 6, 3) := by decide +kernel
theorem dX11_twoOf_167 : decode cX11_twoOf 167 = .ok (.iload_n 1, 1) := by decide +kernel
theorem dX11_twoOf_168 : decode cX11_twoOf 168 = .ok (.iload_n 2, 1) := by decide +kernel
theorem dX11_twoOf_169 : decode cX11_twoOf 169 = .ok (.irem, 1) := by decide +kernel
theorem dX11_twoOf_170 : decode cX11_twoOf 170 = .ok (.ireturn, 1) := by decide +kernel
theorem dX11_twoOf_171 : decode cX11_twoOf 171 = .ok (.iload_n 1, 1) := by decide +kernel
theorem dX11_twoOf_172 : decode cX11_twoOf 172 = .ok (.iload_n 2, 1) := by decide +kernel
theorem dX11_twoOf_173 : decode cX11_twoOf 173 = .ok (.if_icmp .ge 7, 3) := by decide +kernel
theorem dX11_twoOf_176 : decode cX11_twoOf 176 = .ok (.iconst 1, 1) := by decide +kernel
theorem dX11_twoOf_177 : decode cX11_twoOf 177 = .ok (.goto 4, 3) := by decide +kernel
theorem dX11_twoOf_180 : decode cX11_twoOf 180 = .ok (.iconst 0, 1) := by decide +kernel
theorem dX11_twoOf_181 : decode cX11_twoOf 181 = .ok (.ireturn, 1) := by decide +kernel
theorem dX11_twoOf_182 : decode cX11_twoOf 182 = .ok (.iload_n 1, 1) := by decide +kernel
theorem dX11_twoOf_183 : decode cX11_twoOf 183 = .ok (.iload_n 2, 1) := by decide +kernel
theorem dX11_twoOf_184 : decode cX11_twoOf 184 = .ok (.if_icmp .ne 7, 3) := by decide +kernel
theorem dX11_twoOf_187 : decode cX11_twoOf 187 = .ok (.iconst 1, 1) := by decide +kernel
theorem dX11_twoOf_188 : decode cX11_twoOf 188 = .ok (.goto 4, 3) := by decide +kernel
theorem dX11_twoOf_191 : decode cX11_twoOf 191 = .ok (.iconst 0, 1) := by decide +kernel
theorem dX11_twoOf_192 : decode cX11_twoOf 192 = .ok (.ireturn, 1) := by decide +kernel
theorem dX11_twoOf_193 : decode cX11_twoOf 193 = .ok (.iload_n 1, 1) := by decide +kernel
theorem dX11_twoOf_194 : decode cX11_twoOf 194 = .ok (.iload_n 2, 1) := by decide +kernel
theorem dX11_twoOf_195 : decode cX11_twoOf 195 = .ok (.if_icmp .le 7, 3) := by decide +kernel
theorem dX11_twoOf_198 : decode cX11_twoOf 198 = .ok (.iconst 1, 1) := by decide +kernel
theorem dX11_twoOf_199 : decode cX11_twoOf 199 = .ok (.goto 4, 3) := by decide +kernel
theorem dX11_twoOf_202 : decode cX11_twoOf 202 = .ok (.iconst 0, 1) := by decide +kernel
theorem dX11_twoOf_203 : decode cX11_twoOf 203 = .ok (.ireturn, 1) := by decide +kernel
theorem dX11_twoOf_204 : decode cX11_twoOf 204 = .ok (.iload_n 1, 1) := by decide +kernel
theorem dX11_twoOf_205 : decode cX11_twoOf 205 = .ok (.ifCond .eq 11, 3) := by decide +kernel
theorem dX11_twoOf_208 : decode cX11_twoOf 208 = .ok (.iload_n 2, 1) := by decide +kernel
theorem dX11_twoOf_209 : decode cX11_twoOf 209 = .ok (.ifCond .eq 7, 3) := by decide +kernel
theorem dX11_twoOf_212 : decode cX11_twoOf 212 = .ok (.iconst 1, 1) := by decide +kernel
theorem dX11_twoOf_213 : decode cX11_twoOf 213 = .ok (.goto 4, 3) := by decide +kernel
theorem dX11_twoOf_216 : decode cX11_twoOf 216 = .ok (.iconst 0, 1) := by decide +kernel
theorem dX11_twoOf_217 : decode cX11_twoOf 217 = .ok (.ireturn, 1) := by decide +kernel
theorem dX11_twoOf_218 : decode cX11_twoOf 218 = .ok (.iload_n 1, 1) := by decide +kernel
theorem dX11_twoOf_219 : decode cX11_twoOf 219 = .ok (.ifCond .ne 7, 3) := by decide +kernel
theorem dX11_twoOf_222 : decode cX11_twoOf 222 = .ok (.iload_n 2, 1) := by decide +kernel
theorem dX11_twoOf_223 : decode cX11_twoOf 223 = .ok (.ifCond .eq 7, 3) := by decide +kernel
theorem dX11_twoOf_226 : decode cX11_twoOf 226 = .ok (.iconst 1, 1) := by decide +kernel
theorem dX11_twoOf_227 : decode cX11_twoOf 227 = .ok (.goto 4, 3) := by decide +kernel
theorem dX11_twoOf_230 : decode cX11_twoOf 230 = .ok (.iconst 0, 1) := by decide +kernel
theorem dX11_twoOf_231 : decode cX11_twoOf 231 = .ok (.ireturn, 1) := by decide +kernel
theorem dX11_worked_0 : decode cX11_worked 0 = .ok (.iconst 0, 1) := by decide +kernel
theorem dX11_worked_1 : decode cX11_worked 1 = .ok (.istore 4, 2) := by decide +kernel
theorem dX11_worked_3 : decode cX11_worked 3 = .ok (.sipush 130, 3) := by decide +kernel
theorem dX11_worked_6 : decode cX11_worked 6 = .ok (.iload_n 1, 1) := by decide +kernel
theorem dX11_worked_7 : decode cX11_worked 7 = .ok (.imul, 1) := by decide +kernel
theorem dX11_worked_8 : decode cX11_worked 8 = .ok (.iload_n 2, 1) := by decide +kernel
theorem dX11_worked_9 : decode cX11_worked 9 = .ok (.iadd, 1) := by decide +kernel
theorem dX11_worked_10 : decode cX11_worked 10 = .ok (.istore 5, 2) := by decide +kernel
theorem dX11_worked_12 : decode cX11_worked 12 = .ok (.iload 5, 2) := by decide +kernel
theorem dX11_worked_14 : decode cX11_worked 14 = .ok (.sipush 130, 3) := by decide +kernel
theorem dX11_worked_17 : decode cX11_worked 17 = .ok (.iload_n 1, 1) := by decide +kernel
theorem dX11_worked_18 : decode cX11_worked 18 = .ok (.imul, 1) := by decide +kernel
theorem dX11_worked_19 : decode cX11_worked 19 = .ok (.iload_n 3, 1) := by decide +kernel
theorem dX11_worked_20 : decode cX11_worked 20 = .ok (.iadd, 1) := by decide +kernel
theorem dX11_worked_21 : decode cX11_worked 21 = .ok (.if_icmp .ge 167, 3) := by decide +kernel
theorem dX11_worked_24 : decode cX11_worked 24 = .ok (.aload_n 0, 1) := by decide +kernel
theorem dX11_worked_25 : decode cX11_worked 25 = .ok (.getfield 53, 3) := by decide +kernel
theorem dX11_worked_28 : decode cX11_worked 28 = .ok (.iload 5, 2) := by decide +kernel
theorem dX11_worked_30 : decode cX11_worked 30 = .ok (.baload, 1) := by decide +kernel
theorem dX11_worked_31 : decode cX11_worked 31 = .ok (.istore 6, 2) := by decide +kernel
theorem dX11_worked_33 : decode cX11_worked 33 = .ok (.iload 6, 2) := by decide +kernel
theorem dX11_worked_35 : decode cX11_worked 35 = .ok (.iconst 1, 1) := by decide +kernel
theorem dX11_worked_36 : decode cX11_worked 36 = .ok (.if_icmp .eq 9, 3) := by decide +kernel
theorem dX11_worked_39 : decode cX11_worked 39 = .ok (.iload 6, 2) := by decide +kernel
theorem dX11_worked_41 : decode cX11_worked 41 = .ok (.iconst 2, 1) := by decide +kernel
theorem dX11_worked_42 : decode cX11_worked 42 = .ok (.if_icmp .ne 44, 3) := by decide +kernel
theorem dX11_worked_45 : decode cX11_worked 45 = .ok (.aload_n 0, 1) := by decide +kernel
theorem dX11_worked_46 : decode cX11_worked 46 = .ok (.getfield 72, 3) := by decide +kernel
theorem dX11_worked_49 : decode cX11_worked 49 = .ok (.iload 4, 2) := by decide +kernel
theorem dX11_worked_51 : decode cX11_worked 51 = .ok (.iload 6, 2) := by decide +kernel
theorem dX11_worked_53 : decode cX11_worked 53 = .ok (.iconst 1, 1) := by decide +kernel
theorem dX11_worked_54 : decode cX11_worked 54 = .ok (.if_icmp .ne 13, 3) := by decide +kernel
theorem dX11_worked_57 : decode cX11_worked 57 = .ok (.aload_n 0, 1) := by decide +kernel
theorem dX11_worked_58 : decode cX11_worked 58 = .ok (.getfield 56, 3) := by decide +kernel
theorem dX11_worked_61 : decode cX11_worked 61 = .ok (.iload 5, 2) := by decide +kernel
theorem dX11_worked_63 : decode cX11_worked 63 = .ok (.iaload, 1) := by decide +kernel
theorem dX11_worked_64 : decode cX11_worked 64 = .ok (.goto 15, 3) := by decide +kernel
theorem dX11_worked_67 : decode cX11_worked 67 = .ok (.aload_n 0, 1) := by decide +kernel
theorem dX11_worked_68 : decode cX11_worked 68 = .ok (.getfield 69, 3) := by decide +kernel
theorem dX11_worked_71 : decode cX11_worked 71 = .ok (.aload_n 0, 1) := by decide +kernel
theorem dX11_worked_72 : decode cX11_worked 72 = .ok (.getfield 56, 3) := by decide +kernel
theorem dX11_worked_75 : decode cX11_worked 75 = .ok (.iload 5, 2) := by decide +kernel
theorem dX11_worked_77 : decode cX11_worked 77 = .ok (.iaload, 1) := by decide +kernel
theorem dX11_worked_78 : decode cX11_worked 78 = .ok (.iaload, 1) := by decide +kernel
theorem dX11_worked_79 : decode cX11_worked 79 = .ok (.iastore, 1) := by decide +kernel
theorem dX11_worked_80 : decode cX11_worked 80 = .ok (.iinc 4 1, 3) := by decide +kernel
theorem dX11_worked_83 : decode cX11_worked 83 = .ok (.goto 99, 3) := by decide +kernel
theorem dX11_worked_86 : decode cX11_worked 86 = .ok (.iload 6, 2) := by decide +kernel
theorem dX11_worked_88 : decode cX11_worked 88 = .ok (.iconst 3, 1) := by decide +kernel
theorem dX11_worked_89 : decode cX11_worked 89 = .ok (.if_icmp .ne 32, 3) := by decide +kernel
theorem dX11_worked_92 : decode cX11_worked 92 = .ok (.aload_n 0, 1) := by decide +kernel
theorem dX11_worked_93 : decode cX11_worked 93 = .ok (.getfield 72, 3) := by decide +kernel
theorem dX11_worked_96 : decode cX11_worked 96 = .ok (.iload 4, 2) := by decide +kernel
theorem dX11_worked_98 : decode cX11_worked 98 = .ok (.iconst 1, 1) := by decide +kernel
theorem dX11_worked_99 : decode cX11_worked 99 = .ok (.isub, 1) := by decide +kernel
theorem dX11_worked_100 : decode cX11_worked 100 = .ok (.aload_n 0, 1) := by decide +kernel
theorem dX11_worked_101 : decode cX11_worked 101 = .ok (.getfield 72, 3) := by decide +kernel
theorem dX11_worked_104 : decode cX11_worked 104 = .ok (.iload 4, 2) := by decide +kernel
theorem dX11_worked_106 : decode cX11_worked 106 = .ok (.iconst 1, 1) := by decide +kernel
theorem dX11_worked_107 : decode cX11_worked 107 = .ok (.isub, 1) := by decide +kernel
theorem dX11_worked_108 : decode cX11_worked 108 = .ok (.iaload, 1) := by decide +kernel
theorem dX11_worked_109 : decode cX11_worked 109 = .ok (.ifCond .ne 7, 3) := by decide +kernel
theorem dX11_worked_112 : decode cX11_worked 112 = .ok (.iconst 1, 1) := by decide +kernel
theorem dX11_worked_113 : decode cX11_worked 113 = .ok (.goto 4, 3) := by decide +kernel
theorem dX11_worked_116 : decode cX11_worked 116 = .ok (.iconst 0, 1) := by decide +kernel
theorem dX11_worked_117 : decode cX11_worked 117 = .ok (.iastore, 1) := by decide +kernel
theorem dX11_worked_118 : decode cX11_worked 118 = .ok (.goto 64, 3) := by decide +kernel
theorem dX11_worked_121 : decode cX11_worked 121 = .ok (.iload 6, 2) := by decide +kernel
theorem dX11_worked_123 : decode cX11_worked 123 = .ok (.iconst 4, 1) := by decide +kernel
theorem dX11_worked_124 : decode cX11_worked 124 = .ok (.if_icmp .ne 25, 3) := by decide +kernel
theorem dX11_worked_127 : decode cX11_worked 127 = .ok (.aload_n 0, 1) := by decide +kernel
theorem dX11_worked_128 : decode cX11_worked 128 = .ok (.getfield 72, 3) := by decide +kernel
theorem dX11_worked_131 : decode cX11_worked 131 = .ok (.iload 4, 2) := by decide +kernel
theorem dX11_worked_133 : decode cX11_worked 133 = .ok (.iconst 1, 1) := by decide +kernel
theorem dX11_worked_134 : decode cX11_worked 134 = .ok (.isub, 1) := by decide +kernel
theorem dX11_worked_135 : decode cX11_worked 135 = .ok (.aload_n 0, 1) := by decide +kernel
theorem dX11_worked_136 : decode cX11_worked 136 = .ok (.getfield 72, 3) := by decide +kernel
theorem dX11_worked_139 : decode cX11_worked 139 = .ok (.iload 4, 2) := by decide +kernel
theorem dX11_worked_141 : decode cX11_worked 141 = .ok (.iconst 1, 1) := by decide +kernel
