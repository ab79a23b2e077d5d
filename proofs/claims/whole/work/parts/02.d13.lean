theorem dX11_things_65 : decode cX11_things 65 = .ok (.i2l, 1) := by decide +kernel
theorem dX11_things_66 : decode cX11_things 66 = .ok (.iconst 4, 1) := by decide +kernel
theorem dX11_things_67 : decode cX11_things 67 = .ok (.iload 4, 2) := by decide +kernel
theorem dX11_things_69 : decode cX11_things 69 = .ok (.imul, 1) := by decide +kernel
theorem dX11_things_70 : decode cX11_things 70 = .ok (.i2l, 1) := by decide +kernel
theorem dX11_things_71 : decode cX11_things 71 = .ok (.ladd, 1) := by decide +kernel
theorem dX11_things_72 : decode cX11_things 72 = .ok (.lstore 5, 2) := by decide +kernel
theorem dX11_things_74 : decode cX11_things 74 = .ok (.lload 5, 2) := by decide +kernel
theorem dX11_things_76 : decode cX11_things 76 = .ok (.lconst 0, 1) := by decide +kernel
theorem dX11_things_77 : decode cX11_things 77 = .ok (.lcmp, 1) := by decide +kernel
theorem dX11_things_78 : decode cX11_things 78 = .ok (.ifCond .lt 29, 3) := by decide +kernel
theorem dX11_things_81 : decode cX11_things 81 = .ok (.lload 5, 2) := by decide +kernel
theorem dX11_things_83 : decode cX11_things 83 = .ok (.ldc2_w 133, 3) := by decide +kernel
theorem dX11_things_86 : decode cX11_things 86 = .ok (.ladd, 1) := by decide +kernel
theorem dX11_things_87 : decode cX11_things 87 = .ok (.aload_n 0, 1) := by decide +kernel
theorem dX11_things_88 : decode cX11_things 88 = .ok (.getfield 102, 3) := by decide +kernel
theorem dX11_things_91 : decode cX11_things 91 = .ok (.iload_n 1, 1) := by decide +kernel
theorem dX11_things_92 : decode cX11_things 92 = .ok (.iaload, 1) := by decide +kernel
theorem dX11_things_93 : decode cX11_things 93 = .ok (.i2l, 1) := by decide +kernel
theorem dX11_things_94 : decode cX11_things 94 = .ok (.lcmp, 1) := by decide +kernel
theorem dX11_things_95 : decode cX11_things 95 = .ok (.ifCond .ge 12, 3) := by decide +kernel
theorem dX11_things_98 : decode cX11_things 98 = .ok (.aload_n 0, 1) := by decide +kernel
theorem dX11_things_99 : decode cX11_things 99 = .ok (.getfield 115, 3) := by decide +kernel
theorem dX11_things_102 : decode cX11_things 102 = .ok (.bipush 8, 2) := by decide +kernel
theorem dX11_things_104 : decode cX11_things 104 = .ok (.if_icmp .ne 6, 3) := by decide +kernel
theorem dX11_things_107 : decode cX11_things 107 = .ok (.iload 4, 2) := by decide +kernel
theorem dX11_things_109 : decode cX11_things 109 = .ok (.ireturn, 1) := by decide +kernel
theorem dX11_things_110 : decode cX11_things 110 = .ok (.bipush 60, 2) := by decide +kernel
theorem dX11_things_112 : decode cX11_things 112 = .ok (.iload_n 1, 1) := by decide +kernel
theorem dX11_things_113 : decode cX11_things 113 = .ok (.imul, 1) := by decide +kernel
theorem dX11_things_114 : decode cX11_things 114 = .ok (.lload 5, 2) := by decide +kernel
theorem dX11_things_116 : decode cX11_things 116 = .ok (.l2i, 1) := by decide +kernel
theorem dX11_things_117 : decode cX11_things 117 = .ok (.iadd, 1) := by decide +kernel
theorem dX11_things_118 : decode cX11_things 118 = .ok (.istore 7, 2) := by decide +kernel
theorem dX11_things_120 : decode cX11_things 120 = .ok (.aload_n 0, 1) := by decide +kernel
theorem dX11_things_121 : decode cX11_things 121 = .ok (.getfield 105, 3) := by decide +kernel
theorem dX11_things_124 : decode cX11_things 124 = .ok (.iload 7, 2) := by decide +kernel
theorem dX11_things_126 : decode cX11_things 126 = .ok (.laload, 1) := by decide +kernel
theorem dX11_things_127 : decode cX11_things 127 = .ok (.l2i, 1) := by decide +kernel
theorem dX11_things_128 : decode cX11_things 128 = .ok (.aload_n 0, 1) := by decide +kernel
theorem dX11_things_129 : decode cX11_things 129 = .ok (.getfield 105, 3) := by decide +kernel
theorem dX11_things_132 : decode cX11_things 132 = .ok (.iload 7, 2) := by decide +kernel
theorem dX11_things_134 : decode cX11_things 134 = .ok (.iconst 1, 1) := by decide +kernel
theorem dX11_things_135 : decode cX11_things 135 = .ok (.iadd, 1) := by decide +kernel
theorem dX11_things_136 : decode cX11_things 136 = .ok (.laload, 1) := by decide +kernel
theorem dX11_things_137 : decode cX11_things 137 = .ok (.l2i, 1) := by decide +kernel
theorem dX11_things_138 : decode cX11_things 138 = .ok (.aload_n 0, 1) := by decide +kernel
theorem dX11_things_139 : decode cX11_things 139 = .ok (.getfield 105, 3) := by decide +kernel
theorem dX11_things_142 : decode cX11_things 142 = .ok (.iload 7, 2) := by decide +kernel
theorem dX11_things_144 : decode cX11_things 144 = .ok (.iconst 2, 1) := by decide +kernel
theorem dX11_things_145 : decode cX11_things 145 = .ok (.iadd, 1) := by decide +kernel
theorem dX11_things_146 : decode cX11_things 146 = .ok (.laload, 1) := by decide +kernel
theorem dX11_things_147 : decode cX11_things 147 = .ok (.l2i, 1) := by decide +kernel
theorem dX11_things_148 : decode cX11_things 148 = .ok (.invokestatic 122, 3) := by decide +kernel
theorem dX11_things_151 : decode cX11_things 151 = .ok (.ifCond .eq 22, 3) := by decide +kernel
theorem dX11_things_154 : decode cX11_things 154 = .ok (.aload_n 0, 1) := by decide +kernel
theorem dX11_things_155 : decode cX11_things 155 = .ok (.getfield 105, 3) := by decide +kernel
theorem dX11_things_158 : decode cX11_things 158 = .ok (.iload 7, 2) := by decide +kernel
theorem dX11_things_160 : decode cX11_things 160 = .ok (.iconst 3, 1) := by decide +kernel
theorem dX11_things_161 : decode cX11_things 161 = .ok (.iadd, 1) := by decide +kernel
theorem dX11_things_162 : decode cX11_things 162 = .ok (.laload, 1) := by decide +kernel
theorem dX11_things_163 : decode cX11_things 163 = .ok (.l2i, 1) := by decide +kernel
theorem dX11_things_164 : decode cX11_things 164 = .ok (.iconst 0, 1) := by decide +kernel
theorem dX11_things_165 : decode cX11_things 165 = .ok (.bipush 99, 2) := by decide +kernel
theorem dX11_things_167 : decode cX11_things 167 = .ok (.invokestatic 118, 3) := by decide +kernel
theorem dX11_things_170 : decode cX11_things 170 = .ok (.ifCond .ne 6, 3) := by decide +kernel
theorem dX11_things_173 : decode cX11_things 173 = .ok (.iload 4, 2) := by decide +kernel
theorem dX11_things_175 : decode cX11_things 175 = .ok (.ireturn, 1) := by decide +kernel
theorem dX11_things_176 : decode cX11_things 176 = .ok (.aload_n 0, 1) := by decide +kernel
theorem dX11_things_177 : decode cX11_things 177 = .ok (.aload_n 0, 1) := by decide +kernel
theorem dX11_things_178 : decode cX11_things 178 = .ok (.getfield 105, 3) := by decide +kernel
theorem dX11_things_181 : decode cX11_things 181 = .ok (.iload 7, 2) := by decide +kernel
theorem dX11_things_183 : decode cX11_things 183 = .ok (.laload, 1) := by decide +kernel
theorem dX11_things_184 : decode cX11_things 184 = .ok (.l2i, 1) := by decide +kernel
theorem dX11_things_185 : decode cX11_things 185 = .ok (.aload_n 0, 1) := by decide +kernel
theorem dX11_things_186 : decode cX11_things 186 = .ok (.getfield 105, 3) := by decide +kernel
theorem dX11_things_189 : decode cX11_things 189 = .ok (.iload 7, 2) := by decide +kernel
theorem dX11_things_191 : decode cX11_things 191 = .ok (.iconst 1, 1) := by decide +kernel
theorem dX11_things_192 : decode cX11_things 192 = .ok (.iadd, 1) := by decide +kernel
theorem dX11_things_193 : decode cX11_things 193 = .ok (.laload, 1) := by decide +kernel
theorem dX11_things_194 : decode cX11_things 194 = .ok (.l2i, 1) := by decide +kernel
theorem dX11_things_195 : decode cX11_things 195 = .ok (.aload_n 0, 1) := by decide +kernel
theorem dX11_things_196 : decode cX11_things 196 = .ok (.getfield 105, 3) := by decide +kernel
theorem dX11_things_199 : decode cX11_things 199 = .ok (.iload 7, 2) := by decide +kernel
theorem dX11_things_201 : decode cX11_things 201 = .ok (.iconst 2, 1) := by decide +kernel
theorem dX11_things_202 : decode cX11_things 202 = .ok (.iadd, 1) := by decide +kernel
theorem dX11_things_203 : decode cX11_things 203 = .ok (.laload, 1) := by decide +kernel
theorem dX11_things_204 : decode cX11_things 204 = .ok (.l2i, 1) := by decide +kernel
theorem dX11_things_205 : decode cX11_things 205 = .ok (.aload_n 0, 1) := by decide +kernel
theorem dX11_things_206 : decode cX11_things 206 = .ok (.getfield 105, 3) := by decide +kernel
theorem dX11_things_209 : decode cX11_things 209 = .ok (.iload 7, 2) := by decide +kernel
theorem dX11_things_211 : decode cX11_things 211 = .ok (.iconst 3, 1) := by decide +kernel
theorem dX11_things_212 : decode cX11_things 212 = .ok (.iadd, 1) := by decide +kernel
theorem dX11_things_213 : decode cX11_things 213 = .ok (.laload, 1) := by decide +kernel
theorem dX11_things_214 : decode cX11_things 214 = .ok (.l2i, 1) := by decide +kernel
theorem dX11_things_215 : decode cX11_things 215 = .ok (.invokevirtual 125, 3) := by decide +kernel
theorem dX11_things_218 : decode cX11_things 218 = .ok (.pop, 1) := by decide +kernel
theorem dX11_things_219 : decode cX11_things 219 = .ok (.iinc 4 1, 3) := by decide +kernel
theorem dX11_things_222 : decode cX11_things 222 = .ok (.goto (-164), 3) := by decide +kernel
theorem dX11_things_225 : decode cX11_things 225 = .ok (.iload_n 3, 1) := by decide +kernel
theorem dX11_things_226 : decode cX11_things 226 = .ok (.ireturn, 1) := by decide +kernel
theorem dX11_valueAt_0 : decode cX11_valueAt 0 = .ok (.iload_n 1, 1) := by decide +kernel
theorem dX11_valueAt_1 : decode cX11_valueAt 1 = .ok (.tableswitch 92 0 6 #[43, 50, 57, 64, 71, 78, 85], 43) := by decide +kernel
theorem dX11_valueAt_44 : decode cX11_valueAt 44 = .ok (.aload_n 0, 1) := by decide +kernel
theorem dX11_valueAt_45 : decode cX11_valueAt 45 = .ok (.getfield 9, 3) := by decide +kernel
theorem dX11_valueAt_48 : decode cX11_valueAt 48 = .ok (.iload_n 2, 1) := by decide +kernel
theorem dX11_valueAt_49 : decode cX11_valueAt 49 = .ok (.iaload, 1) := by decide +kernel
theorem dX11_valueAt_50 : decode cX11_valueAt 50 = .ok (.ireturn, 1) := by decide +kernel
theorem dX11_valueAt_51 : decode cX11_valueAt 51 = .ok (.aload_n 0, 1) := by decide +kernel
theorem dX11_valueAt_52 : decode cX11_valueAt 52 = .ok (.getfield 15, 3) := by decide +kernel
theorem dX11_valueAt_55 : decode cX11_valueAt 55 = .ok (.iload_n 2, 1) := by decide +kernel
theorem dX11_valueAt_56 : decode cX11_valueAt 56 = .ok (.iaload, 1) := by decide +kernel
theorem dX11_valueAt_57 : decode cX11_valueAt 57 = .ok (.ireturn, 1) := by decide +kernel
theorem dX11_valueAt_58 : decode cX11_valueAt 58 = .ok (.aload_n 0, 1) := by decide +kernel
theorem dX11_valueAt_59 : decode cX11_valueAt 59 = .ok (.getfield 18, 3) := by decide +kernel
theorem dX11_valueAt_62 : decode cX11_valueAt 62 = .ok (.iload_n 2, 1) := by decide +kernel
theorem dX11_valueAt_63 : decode cX11_valueAt 63 = .ok (.iaload, 1) := by decide +kernel
theorem dX11_valueAt_64 : decode cX11_valueAt 64 = .ok (.ireturn, 1) := by decide +kernel
theorem dX11_valueAt_65 : decode cX11_valueAt 65 = .ok (.aload_n 0, 1) := by decide +kernel
theorem dX11_valueAt_66 : decode cX11_valueAt 66 = .ok (.getfield 21, 3) := by decide +kernel
theorem dX11_valueAt_69 : decode cX11_valueAt 69 = .ok (.iload_n 2, 1) := by decide +kernel
theorem dX11_valueAt_70 : decode cX11_valueAt 70 = .ok (.iaload, 1) := by decide +kernel
theorem dX11_valueAt_71 : decode cX11_valueAt 71 = .ok (.ireturn, 1) := by decide +kernel
theorem dX11_valueAt_72 : decode cX11_valueAt 72 = .ok (.aload_n 0, 1) := by decide +kernel
theorem dX11_valueAt_73 : decode cX11_valueAt 73 = .ok (.getfield 24, 3) := by decide +kernel
theorem dX11_valueAt_76 : decode cX11_valueAt 76 = .ok (.iload_n 2, 1) := by decide +kernel
theorem dX11_valueAt_77 : decode cX11_valueAt 77 = .ok (.iaload, 1) := by decide +kernel
theorem dX11_valueAt_78 : decode cX11_valueAt 78 = .ok (.ireturn, 1) := by decide +kernel
theorem dX11_valueAt_79 : decode cX11_valueAt 79 = .ok (.aload_n 0, 1) := by decide +kernel
theorem dX11_valueAt_80 : decode cX11_valueAt 80 = .ok (.getfield 27, 3) := by decide +kernel
theorem dX11_valueAt_83 : decode cX11_valueAt 83 = .ok (.iload_n 2, 1) := by decide +kernel
theorem dX11_valueAt_84 : decode cX11_valueAt 84 = .ok (.iaload, 1) := by decide +kernel
theorem dX11_valueAt_85 : decode cX11_valueAt 85 = .ok (.ireturn, 1) := by decide +kernel
theorem dX11_valueAt_86 : decode cX11_valueAt 86 = .ok (.aload_n 0, 1) := by decide +kernel
theorem dX11_valueAt_87 : decode cX11_valueAt 87 = .ok (.getfield 30, 3) := by decide +kernel
theorem dX11_valueAt_90 : decode cX11_valueAt 90 = .ok (.iload_n 2, 1) := by decide +kernel
theorem dX11_valueAt_91 : decode cX11_valueAt 91 = .ok (.iaload, 1) := by decide +kernel
theorem dX11_valueAt_92 : decode cX11_valueAt 92 = .ok (.ireturn, 1) := by decide +kernel
theorem dX11_valueAt_93 : decode cX11_valueAt 93 = .ok (.aload_n 0, 1) := by decide +kernel
theorem dX11_valueAt_94 : decode cX11_valueAt 94 = .ok (.getfield 33, 3) := by decide +kernel
theorem dX11_valueAt_97 : decode cX11_valueAt 97 = .ok (.ireturn, 1) := by decide +kernel
theorem dX11_lays_0 : decode cX11_lays 0 = .ok (.iload_n 1, 1) := by decide +kernel
theorem dX11_lays_1 : decode cX11_lays 1 = .ok (.tableswitch 113 0 6 #[43, 53, 63, 73, 83, 93, 103], 43) := by decide +kernel
theorem dX11_lays_44 : decode cX11_lays 44 = .ok (.aload_n 0, 1) := by decide +kernel
theorem dX11_lays_45 : decode cX11_lays 45 = .ok (.getfield 9, 3) := by decide +kernel
theorem dX11_lays_48 : decode cX11_lays 48 = .ok (.iload_n 2, 1) := by decide +kernel
theorem dX11_lays_49 : decode cX11_lays 49 = .ok (.iload_n 3, 1) := by decide +kernel
theorem dX11_lays_50 : decode cX11_lays 50 = .ok (.iastore, 1) := by decide +kernel
theorem dX11_lays_51 : decode cX11_lays 51 = .ok (.goto 68, 3) := by decide +kernel
theorem dX11_lays_54 : decode cX11_lays 54 = .ok (.aload_n 0, 1) := by decide +kernel
theorem dX11_lays_55 : decode cX11_lays 55 = .ok (.getfield 15, 3) := by decide +kernel
theorem dX11_lays_58 : decode cX11_lays 58 = .ok (.iload_n 2, 1) := by decide +kernel
theorem dX11_lays_59 : decode cX11_lays 59 = .ok (.iload_n 3, 1) := by decide +kernel
theorem dX11_lays_60 : decode cX11_lays 60 = .ok (.iastore, 1) := by decide +kernel
theorem dX11_lays_61 : decode cX11_lays 61 = .ok (.goto 58, 3) := by decide +kernel
theorem dX11_lays_64 : decode cX11_lays 64 = .ok (.aload_n 0, 1) := by decide +kernel
theorem dX11_lays_65 : decode cX11_lays 65 = .ok (.getfield 18, 3) := by decide +kernel
theorem dX11_lays_68 : decode cX11_lays 68 = .ok (.iload_n 2, 1) := by decide +kernel
theorem dX11_lays_69 : decode cX11_lays 69 = .ok (.iload_n 3, 1) := by decide +kernel
theorem dX11_lays_70 : decode cX11_lays 70 = .ok (.iastore, 1) := by decide +kernel
theorem dX11_lays_71 : decode cX11_lays 71 = .ok (.goto 48, 3) := by decide +kernel
theorem dX11_lays_74 : decode cX11_lays 74 = .ok (.aload_n 0, 1) := by decide +kernel
theorem dX11_lays_75 : decode cX11_lays 75 = .ok (.getfield 21, 3) := by decide +kernel
theorem dX11_lays_78 : decode cX11_lays 78 = .ok (.iload_n 2, 1) := by decide +kernel
theorem dX11_lays_79 : decode cX11_lays 79 = .ok (.iload_n 3, 1) := by decide +kernel
theorem dX11_lays_80 : decode cX11_lays 80 = .ok (.iastore, 1) := by decide +kernel
theorem dX11_lays_81 : decode cX11_lays 81 = .ok (.goto 38, 3) := by decide +kernel
theorem dX11_lays_84 : decode cX11_lays 84 = .ok (.aload_n 0, 1) := by decide +kernel
theorem dX11_lays_85 : decode cX11_lays 85 = .ok (.getfield 24, 3) := by decide +kernel
theorem dX11_lays_88 : decode cX11_lays 88 = .ok (.iload_n 2, 1) := by decide +kernel
theorem dX11_lays_89 : decode cX11_lays 89 = .ok (.iload_n 3, 1) := by decide +kernel
theorem dX11_lays_90 : decode cX11_lays 90 = .ok (.iastore, 1) := by decide +kernel
theorem dX11_lays_91 : decode cX11_lays 91 = .ok (.goto 28, 3) := by decide +kernel
theorem dX11_lays_94 : decode cX11_lays 94 = .ok (.aload_n 0, 1) := by decide +kernel
theorem dX11_lays_95 : decode cX11_lays 95 = .ok (.getfield 27, 3) := by decide +kernel
theorem dX11_lays_98 : decode cX11_lays 98 = .ok (.iload_n 2, 1) := by decide +kernel
theorem dX11_lays_99 : decode cX11_lays 99 = .ok (.iload_n 3, 1) := by decide +kernel
theorem dX11_lays_100 : decode cX11_lays 100 = .ok (.iastore, 1) := by decide +kernel
theorem dX11_lays_101 : decode cX11_lays 101 = .ok (.goto 18, 3) := by decide +kernel
theorem dX11_lays_104 : decode cX11_lays 104 = .ok (.aload_n 0, 1) := by decide +kernel
theorem dX11_lays_105 : decode cX11_lays 105 = .ok (.getfield 30, 3) := by decide +kernel
theorem dX11_lays_108 : decode cX11_lays 108 = .ok (.iload_n 2, 1) := by decide +kernel
theorem dX11_lays_109 : decode cX11_lays 109 = .ok (.iload_n 3, 1) := by decide +kernel
theorem dX11_lays_110 : decode cX11_lays 110 = .ok (.iastore, 1) := by decide +kernel
theorem dX11_lays_111 : decode cX11_lays 111 = .ok (.goto 8, 3) := by decide +kernel
theorem dX11_lays_114 : decode cX11_lays 114 = .ok (.aload_n 0, 1) := by decide +kernel
theorem dX11_lays_115 : decode cX11_lays 115 = .ok (.iload_n 3, 1) := by decide +kernel
theorem dX11_lays_116 : decode cX11_lays 116 = .ok (.putfield 33, 3) := by decide +kernel
theorem dX11_lays_119 : decode cX11_lays 119 = .ok (.return_, 1) := by decide +kernel
theorem dX11_changes_0 : decode cX11_changes 0 = .ok (.aload_n 0, 1) := by decide +kernel
theorem dX11_changes_1 : decode cX11_changes 1 = .ok (.iload_n 1, 1) := by decide +kernel
theorem dX11_changes_2 : decode cX11_changes 2 = .ok (.iload_n 2, 1) := by decide +kernel
theorem dX11_changes_3 : decode cX11_changes 3 = .ok (.invokevirtual 135, 3) := by decide +kernel
theorem dX11_changes_6 : decode cX11_changes 6 = .ok (.istore 4, 2) := by decide +kernel
theorem dX11_changes_8 : decode cX11_changes 8 = .ok (.iload 4, 2) := by decide +kernel
theorem dX11_changes_10 : decode cX11_changes 10 = .ok (.iload_n 3, 1) := by decide +kernel
theorem dX11_changes_11 : decode cX11_changes 11 = .ok (.if_icmp .ne 6, 3) := by decide +kernel
theorem dX11_changes_14 : decode cX11_changes 14 = .ok (.iload 4, 2) := by decide +kernel
theorem dX11_changes_16 : decode cX11_changes 16 = .ok (.ireturn, 1) := by decide +kernel
theorem dX11_changes_17 : decode cX11_changes 17 = .ok (.aload_n 0, 1) := by decide +kernel
theorem dX11_changes_18 : decode cX11_changes 18 = .ok (.iconst 0, 1) := by decide +kernel
theorem dX11_changes_19 : decode cX11_changes 19 = .ok (.putfield 139, 3) := by decide +kernel
theorem dX11_changes_22 : decode cX11_changes 22 = .ok (.aload_n 0, 1) := by decide +kernel
theorem dX11_changes_23 : decode cX11_changes 23 = .ok (.getfield 142, 3) := by decide +kernel
theorem dX11_changes_26 : decode cX11_changes 26 = .ok (.bipush 40, 2) := by decide +kernel
theorem dX11_changes_28 : decode cX11_changes 28 = .ok (.if_icmp .ne 93, 3) := by decide +kernel
theorem dX11_changes_31 : decode cX11_changes 31 = .ok (.iconst 1, 1) := by decide +kernel
theorem dX11_changes_32 : decode cX11_changes 32 = .ok (.istore 5, 2) := by decide +kernel
theorem dX11_changes_34 : decode cX11_changes 34 = .ok (.iload 5, 2) := by decide +kernel
theorem dX11_changes_36 : decode cX11_changes 36 = .ok (.bipush 40, 2) := by decide +kernel
theorem dX11_changes_38 : decode cX11_changes 38 = .ok (.if_icmp .ge 73, 3) := by decide +kernel
theorem dX11_changes_41 : decode cX11_changes 41 = .ok (.aload_n 0, 1) := by decide +kernel
theorem dX11_changes_42 : decode cX11_changes 42 = .ok (.getfield 37, 3) := by decide +kernel
theorem dX11_changes_45 : decode cX11_changes 45 = .ok (.iload 5, 2) := by decide +kernel
theorem dX11_changes_47 : decode cX11_changes 47 = .ok (.iconst 1, 1) := by decide +kernel
theorem dX11_changes_48 : decode cX11_changes 48 = .ok (.isub, 1) := by decide +kernel
theorem dX11_changes_49 : decode cX11_changes 49 = .ok (.aload_n 0, 1) := by decide +kernel
theorem dX11_changes_50 : decode cX11_changes 50 = .ok (.getfield 37, 3) := by decide +kernel
theorem dX11_changes_53 : decode cX11_changes 53 = .ok (.iload 5, 2) := by decide +kernel
theorem dX11_changes_55 : decode cX11_changes 55 = .ok (.iaload, 1) := by decide +kernel
theorem dX11_changes_56 : decode cX11_changes 56 = .ok (.iastore, 1) := by decide +kernel
theorem dX11_changes_57 : decode cX11_changes 57 = .ok (.aload_n 0, 1) := by decide +kernel
theorem dX11_changes_58 : decode cX11_changes 58 = .ok (.getfield 40, 3) := by decide +kernel
theorem dX11_changes_61 : decode cX11_changes 61 = .ok (.iload 5, 2) := by decide +kernel
theorem dX11_changes_63 : decode cX11_changes 63 = .ok (.iconst 1, 1) := by decide +kernel
theorem dX11_changes_64 : decode cX11_changes 64 = .ok (.isub, 1) := by decide +kernel
theorem dX11_changes_65 : decode cX11_changes 65 = .ok (.aload_n 0, 1) := by decide +kernel
theorem dX11_changes_66 : decode cX11_changes 66 = .ok (.getfield 40, 3) := by decide +kernel
theorem dX11_changes_69 : decode cX11_changes 69 = .ok (.iload 5, 2) := by decide +kernel
theorem dX11_changes_71 : decode cX11_changes 71 = .ok (.iaload, 1) := by decide +kernel
theorem dX11_changes_72 : decode cX11_changes 72 = .ok (.iastore, 1) := by decide +kernel
theorem dX11_changes_73 : decode cX11_changes 73 = .ok (.aload_n 0, 1) := by decide +kernel
theorem dX11_changes_74 : decode cX11_changes 74 = .ok (.getfield 43, 3) := by decide +kernel
theorem dX11_changes_77 : decode cX11_changes 77 = .ok (.iload 5, 2) := by decide +kernel
theorem dX11_changes_79 : decode cX11_changes 79 = .ok (.iconst 1, 1) := by decide +kernel
theorem dX11_changes_80 : decode cX11_changes 80 = .ok (.isub, 1) := by decide +kernel
theorem dX11_changes_81 : decode cX11_changes 81 = .ok (.aload_n 0, 1) := by decide +kernel
theorem dX11_changes_82 : decode cX11_changes 82 = .ok (.getfield 43, 3) := by decide +kernel
theorem dX11_changes_85 : decode cX11_changes 85 = .ok (.iload 5, 2) := by decide +kernel
theorem dX11_changes_87 : decode cX11_changes 87 = .ok (.iaload, 1) := by decide +kernel
theorem dX11_changes_88 : decode cX11_changes 88 = .ok (.iastore, 1) := by decide +kernel
theorem dX11_changes_89 : decode cX11_changes 89 = .ok (.aload_n 0, 1) := by decide +kernel
theorem dX11_changes_90 : decode cX11_changes 90 = .ok (.getfield 46, 3) := by decide +kernel
theorem dX11_changes_93 : decode cX11_changes 93 = .ok (.iload 5, 2) := by decide +kernel
theorem dX11_changes_95 : decode cX11_changes 95 = .ok (.iconst 1, 1) := by decide +kernel
theorem dX11_changes_96 : decode cX11_changes 96 = .ok (.isub, 1) := by decide +kernel
theorem dX11_changes_97 : decode cX11_changes 97 = .ok (.aload_n 0, 1) := by decide +kernel
theorem dX11_changes_98 : decode cX11_changes 98 = .ok (.getfield 46, 3) := by decide +kernel
theorem dX11_changes_101 : decode cX11_changes 101 = .ok (.iload 5, 2) := by decide +kernel
theorem dX11_changes_103 : decode cX11_changes 103 = .ok (.iaload, 1) := by decide +kernel
theorem dX11_changes_104 : decode cX11_changes 104 = .ok (.iastore, 1) := by decide +kernel
theorem dX11_changes_105 : decode cX11_changes 105 = .ok (.iinc 5 1, 3) := by decide +kernel
theorem dX11_changes_108 : decode cX11_changes 108 = .ok (.goto (-74), 3) := by decide +kernel
theorem dX11_changes_111 : decode cX11_changes 111 = .ok (.aload_n 0, 1) := by decide +kernel
theorem dX11_changes_112 : decode cX11_changes 112 = .ok (.dup, 1) := by decide +kernel
theorem dX11_changes_113 : decode cX11_changes 113 = .ok (.getfield 142, 3) := by decide +kernel
theorem dX11_changes_116 : decode cX11_changes 116 = .ok (.iconst 1, 1) := by decide +kernel
theorem dX11_changes_117 : decode cX11_changes 117 = .ok (.isub, 1) := by decide +kernel
theorem dX11_changes_118 : decode cX11_changes 118 = .ok (.putfield 142, 3) := by decide +kernel
theorem dX11_changes_121 : decode cX11_changes 121 = .ok (.aload_n 0, 1) := by decide +kernel
theorem dX11_changes_122 : decode cX11_changes 122 = .ok (.getfield 37, 3) := by decide +kernel
theorem dX11_changes_125 : decode cX11_changes 125 = .ok (.aload_n 0, 1) := by decide +kernel
theorem dX11_changes_126 : decode cX11_changes 126 = .ok (.getfield 142, 3) := by decide +kernel
theorem dX11_changes_129 : decode cX11_changes 129 = .ok (.iload_n 1, 1) := by decide +kernel
theorem dX11_changes_130 : decode cX11_changes 130 = .ok (.iastore, 1) := by decide +kernel
theorem dX11_changes_131 : decode cX11_changes 131 = .ok (.aload_n 0, 1) := by decide +kernel
theorem dX11_changes_132 : decode cX11_changes 132 = .ok (.getfield 40, 3) := by decide +kernel
theorem dX11_changes_135 : decode cX11_changes 135 = .ok (.aload_n 0, 1) := by decide +kernel
theorem dX11_changes_136 : decode cX11_changes 136 = .ok (.getfield 142, 3) := by decide +kernel
theorem dX11_changes_139 : decode cX11_changes 139 = .ok (.iload_n 2, 1) := by decide +kernel
theorem dX11_changes_140 : decode cX11_changes 140 = .ok (.iastore, 1) := by decide +kernel
theorem dX11_changes_141 : decode cX11_changes 141 = .ok (.aload_n 0, 1) := by decide +kernel
theorem dX11_changes_142 : decode cX11_changes 142 = .ok (.getfield 43, 3) := by decide +kernel
theorem dX11_changes_145 : decode cX11_changes 145 = .ok (.aload_n 0, 1) := by decide +kernel
theorem dX11_changes_146 : decode cX11_changes 146 = .ok (.getfield 142, 3) := by decide +kernel
theorem dX11_changes_149 : decode cX11_changes 149 = .ok (.iload 4, 2) := by decide +kernel
theorem dX11_changes_151 : decode cX11_changes 151 = .ok (.iastore, 1) := by decide +kernel
theorem dX11_changes_152 : decode cX11_changes 152 = .ok (.aload_n 0, 1) := by decide +kernel
theorem dX11_changes_153 : decode cX11_changes 153 = .ok (.getfield 46, 3) := by decide +kernel
theorem dX11_changes_156 : decode cX11_changes 156 = .ok (.aload_n 0, 1) := by decide +kernel
theorem dX11_changes_157 : decode cX11_changes 157 = .ok (.getfield 142, 3) := by decide +kernel
theorem dX11_changes_160 : decode cX11_changes 160 = .ok (.iload_n 3, 1) := by decide +kernel
theorem dX11_changes_161 : decode cX11_changes 161 = .ok (.iastore, 1) := by decide +kernel
theorem dX11_changes_162 : decode cX11_changes 162 = .ok (.aload_n 0, 1) := by decide +kernel
theorem dX11_changes_163 : decode cX11_changes 163 = .ok (.dup, 1) := by decide +kernel
theorem dX11_changes_164 : decode cX11_changes 164 = .ok (.getfield 142, 3) := by decide +kernel
theorem dX11_changes_167 : decode cX11_changes 167 = .ok (.iconst 1, 1) := by decide +kernel
theorem dX11_changes_168 : decode cX11_changes 168 = .ok (.iadd, 1) := by decide +kernel
theorem dX11_changes_169 : decode cX11_changes 169 = .ok (.putfield 142, 3) := by decide +kernel
theorem dX11_changes_172 : decode cX11_changes 172 = .ok (.aload_n 0, 1) := by decide +kernel
theorem dX11_changes_173 : decode cX11_changes 173 = .ok (.iload_n 1, 1) := by decide +kernel
theorem dX11_changes_174 : decode cX11_changes 174 = .ok (.iload_n 2, 1) := by decide +kernel
theorem dX11_changes_175 : decode cX11_changes 175 = .ok (.iload_n 3, 1) := by decide +kernel
theorem dX11_changes_176 : decode cX11_changes 176 = .ok (.invokevirtual 145, 3) := by decide +kernel
theorem dX11_changes_179 : decode cX11_changes 179 = .ok (.iload 4, 2) := by decide +kernel
theorem dX11_changes_181 : decode cX11_changes 181 = .ok (.ireturn, 1) := by decide +kernel
theorem dX11_undo_0 : decode cX11_undo 0 = .ok (.aload_n 0, 1) := by decide +kernel
theorem dX11_undo_1 : decode cX11_undo 1 = .ok (.getfield 142, 3) := by decide +kernel
theorem dX11_undo_4 : decode cX11_undo 4 = .ok (.ifCond .ne 6, 3) := by decide +kernel
theorem dX11_undo_7 : decode cX11_undo 7 = .ok (.bipush (-5), 2) := by decide +kernel
theorem dX11_undo_9 : decode cX11_undo 9 = .ok (.ireturn, 1) := by decide +kernel
theorem dX11_undo_10 : decode cX11_undo 10 = .ok (.aload_n 0, 1) := by decide +kernel
theorem dX11_undo_11 : decode cX11_undo 11 = .ok (.dup, 1) := by decide +kernel
theorem dX11_undo_12 : decode cX11_undo 12 = .ok (.getfield 142, 3) := by decide +kernel
theorem dX11_undo_15 : decode cX11_undo 15 = .ok (.iconst 1, 1) := by decide +kernel
theorem dX11_undo_16 : decode cX11_undo 16 = .ok (.isub, 1) := by decide +kernel
theorem dX11_undo_17 : decode cX11_undo 17 = .ok (.putfield 142, 3) := by decide +kernel
theorem dX11_undo_20 : decode cX11_undo 20 = .ok (.aload_n 0, 1) := by decide +kernel
theorem dX11_undo_21 : decode cX11_undo 21 = .ok (.dup, 1) := by decide +kernel
theorem dX11_undo_22 : decode cX11_undo 22 = .ok (.getfield 139, 3) := by decide +kernel
theorem dX11_undo_25 : decode cX11_undo 25 = .ok (.iconst 1, 1) := by decide +kernel
theorem dX11_undo_26 : decode cX11_undo 26 = .ok (.iadd, 1) := by decide +kernel
theorem dX11_undo_27 : decode cX11_undo 27 = .ok (.putfield 139, 3) := by decide +kernel
theorem dX11_undo_30 : decode cX11_undo 30 = .ok (.aload_n 0, 1) := by decide +kernel
theorem dX11_undo_31 : decode cX11_undo 31 = .ok (.aload_n 0, 1) := by decide +kernel
theorem dX11_undo_32 : decode cX11_undo 32 = .ok (.getfield 37, 3) := by decide +kernel
theorem dX11_undo_35 : decode cX11_undo 35 = .ok (.aload_n 0, 1) := by decide +kernel
theorem dX11_undo_36 : decode cX11_undo 36 = .ok (.getfield 142, 3) := by decide +kernel
theorem dX11_undo_39 : decode cX11_undo 39 = .ok (.iaload, 1) := by decide +kernel
theorem dX11_undo_40 : decode cX11_undo 40 = .ok (.aload_n 0, 1) := by decide +kernel
theorem dX11_undo_41 : decode cX11_undo 41 = .ok (.getfield 40, 3) := by decide +kernel
theorem dX11_undo_44 : decode cX11_undo 44 = .ok (.aload_n 0, 1) := by decide +kernel
theorem dX11_undo_45 : decode cX11_undo 45 = .ok (.getfield 142, 3) := by decide +kernel
theorem dX11_undo_48 : decode cX11_undo 48 = .ok (.iaload, 1) := by decide +kernel
theorem dX11_undo_49 : decode cX11_undo 49 = .ok (.aload_n 0, 1) := by decide +kernel
theorem dX11_undo_50 : decode cX11_undo 50 = .ok (.getfield 43, 3) := by decide +kernel
theorem dX11_undo_53 : decode cX11_undo 53 = .ok (.aload_n 0, 1) := by decide +kernel
theorem dX11_undo_54 : decode cX11_undo 54 = .ok (.getfield 142, 3) := by decide +kernel
theorem dX11_undo_57 : decode cX11_undo 57 = .ok (.iaload, 1) := by decide +kernel
theorem dX11_undo_58 : decode cX11_undo 58 = .ok (.invokevirtual 145, 3) := by decide +kernel
theorem dX11_undo_61 : decode cX11_undo 61 = .ok (.aload_n 0, 1) := by decide +kernel
theorem dX11_undo_62 : decode cX11_undo 62 = .ok (.getfield 142, 3) := by decide +kernel
theorem dX11_undo_65 : decode cX11_undo 65 = .ok (.ireturn, 1) := by decide +kernel
theorem dX11_redo_0 : decode cX11_redo 0 = .ok (.aload_n 0, 1) := by decide +kernel
theorem dX11_redo_1 : decode cX11_redo 1 = .ok (.getfield 139, 3) := by decide +kernel
theorem dX11_redo_4 : decode cX11_redo 4 = .ok (.ifCond .ne 6, 3) := by decide +kernel
theorem dX11_redo_7 : decode cX11_redo 7 = .ok (.bipush (-5), 2) := by decide +kernel
theorem dX11_redo_9 : decode cX11_redo 9 = .ok (.ireturn, 1) := by decide +kernel
theorem dX11_redo_10 : decode cX11_redo 10 = .ok (.aload_n 0, 1) := by decide +kernel
theorem dX11_redo_11 : decode cX11_redo 11 = .ok (.aload_n 0, 1) := by decide +kernel
theorem dX11_redo_12 : decode cX11_redo 12 = .ok (.getfield 37, 3) := by decide +kernel
theorem dX11_redo_15 : decode cX11_redo 15 = .ok (.aload_n 0, 1) := by decide +kernel
theorem dX11_redo_16 : decode cX11_redo 16 = .ok (.getfield 142, 3) := by decide +kernel
theorem dX11_redo_19 : decode cX11_redo 19 = .ok (.iaload, 1) := by decide +kernel
theorem dX11_redo_20 : decode cX11_redo 20 = .ok (.aload_n 0, 1) := by decide +kernel
theorem dX11_redo_21 : decode cX11_redo 21 = .ok (.getfield 40, 3) := by decide +kernel
theorem dX11_redo_24 : decode cX11_redo 24 = .ok (.aload_n 0, 1) := by decide +kernel
theorem dX11_redo_25 : decode cX11_redo 25 = .ok (.getfield 142, 3) := by decide +kernel
theorem dX11_redo_28 : decode cX11_redo 28 = .ok (.iaload, 1) := by decide +kernel
theorem dX11_redo_29 : decode cX11_redo 29 = .ok (.aload_n 0, 1) := by decide +kernel
theorem dX11_redo_30 : decode cX11_redo 30 = .ok (.getfield 46, 3) := by decide +kernel
theorem dX11_redo_33 : decode cX11_redo 33 = .ok (.aload_n 0, 1) := by decide +kernel
theorem dX11_redo_34 : decode cX11_redo 34 = .ok (.getfield 142, 3) := by decide +kernel
theorem dX11_redo_37 : decode cX11_redo 37 = .ok (.iaload, 1) := by decide +kernel
theorem dX11_redo_38 : decode cX11_redo 38 = .ok (.invokevirtual 145, 3) := by decide +kernel
theorem dX11_redo_41 : decode cX11_redo 41 = .ok (.aload_n 0, 1) := by decide +kernel
theorem dX11_redo_42 : decode cX11_redo 42 = .ok (.dup, 1) := by decide +kernel
theorem dX11_redo_43 : decode cX11_redo 43 = .ok (.getfield 142, 3) := by decide +kernel
theorem dX11_redo_46 : decode cX11_redo 46 = .ok (.iconst 1, 1) := by decide +kernel
theorem dX11_redo_47 : decode cX11_redo 47 = .ok (.iadd, 1) := by decide +kernel
theorem dX11_redo_48 : decode cX11_redo 48 = .ok (.putfield 142, 3) := by decide +kernel
theorem dX11_redo_51 : decode cX11_redo 51 = .ok (.aload_n 0, 1) := by decide +kernel
theorem dX11_redo_52 : decode cX11_redo 52 = .ok (.dup, 1) := by decide +kernel
theorem dX11_redo_53 : decode cX11_redo 53 = .ok (.getfield 139, 3) := by decide +kernel
theorem dX11_redo_56 : decode cX11_redo 56 = .ok (.iconst 1, 1) := by decide +kernel
theorem dX11_redo_57 : decode cX11_redo 57 = .ok (.isub, 1) := by decide +kernel
theorem dX11_redo_58 : decode cX11_redo 58 = .ok (.putfield 139, 3) := by decide +kernel
theorem dX11_redo_61 : decode cX11_redo 61 = .ok (.aload_n 0, 1) := by decide +kernel
theorem dX11_redo_62 : decode cX11_redo 62 = .ok (.getfield 139, 3) := by decide +kernel
theorem dX11_redo_65 : decode cX11_redo 65 = .ok (.ireturn, 1) := by decide +kernel
theorem dX11_isOne_0 : decode cX11_isOne 0 = .ok (.iload_n 2, 1) := by decide +kernel
theorem dX11_isOne_1 : decode cX11_isOne 1 = .ok (.iconst 0, 1) := by decide +kernel
theorem dX11_isOne_2 : decode cX11_isOne 2 = .ok (.iconst 4, 1) := by decide +kernel
theorem dX11_isOne_3 : decode cX11_isOne 3 = .ok (.invokestatic 118, 3) := by decide +kernel
theorem dX11_isOne_6 : decode cX11_isOne 6 = .ok (.ifCond .eq 9, 3) := by decide +kernel
theorem dX11_isOne_9 : decode cX11_isOne 9 = .ok (.aload_n 0, 1) := by decide +kernel
theorem dX11_isOne_10 : decode cX11_isOne 10 = .ok (.iload_n 1, 1) := by decide +kernel
theorem dX11_isOne_11 : decode cX11_isOne 11 = .ok (.invokevirtual 149, 3) := by decide +kernel
theorem dX11_isOne_14 : decode cX11_isOne 14 = .ok (.ireturn, 1) := by decide +kernel
theorem dX11_isOne_15 : decode cX11_isOne 15 = .ok (.iload_n 2, 1) := by decide +kernel
theorem dX11_isOne_16 : decode cX11_isOne 16 = .ok (.iconst 5, 1) := by decide +kernel
theorem dX11_isOne_17 : decode cX11_isOne 17 = .ok (.if_icmp .ne 10, 3) := by decide +kernel
theorem dX11_isOne_20 : decode cX11_isOne 20 = .ok (.iload_n 1, 1) := by decide +kernel
theorem dX11_isOne_21 : decode cX11_isOne 21 = .ok (.iconst 0, 1) := by decide +kernel
theorem dX11_isOne_22 : decode cX11_isOne 22 = .ok (.iconst 5, 1) := by decide +kernel
theorem dX11_isOne_23 : decode cX11_isOne 23 = .ok (.invokestatic 118, 3) := by decide +kernel
theorem dX11_isOne_26 : decode cX11_isOne 26 = .ok (.ireturn, 1) := by decide +kernel
theorem dX11_isOne_27 : decode cX11_isOne 27 = .ok (.iload_n 2, 1) := by decide +kernel
theorem dX11_isOne_28 : decode cX11_isOne 28 = .ok (.bipush 6, 2) := by decide +kernel
theorem dX11_isOne_30 : decode cX11_isOne 30 = .ok (.if_icmp .ne 10, 3) := by decide +kernel
theorem dX11_isOne_33 : decode cX11_isOne 33 = .ok (.iload_n 1, 1) := by decide +kernel
theorem dX11_isOne_34 : decode cX11_isOne 34 = .ok (.iconst 0, 1) := by decide +kernel
theorem dX11_isOne_35 : decode cX11_isOne 35 = .ok (.iconst 5, 1) := by decide +kernel
theorem dX11_isOne_36 : decode cX11_isOne 36 = .ok (.invokestatic 118, 3) := by decide +kernel
theorem dX11_isOne_39 : decode cX11_isOne 39 = .ok (.ireturn, 1) := by decide +kernel
theorem dX11_isOne_40 : decode cX11_isOne 40 = .ok (.iload_n 2, 1) := by decide +kernel
theorem dX11_isOne_41 : decode cX11_isOne 41 = .ok (.bipush 7, 2) := by decide +kernel
theorem dX11_isOne_43 : decode cX11_isOne 43 = .ok (.if_icmp .ne 11, 3) := by decide +kernel
theorem dX11_isOne_46 : decode cX11_isOne 46 = .ok (.iload_n 1, 1) := by decide +kernel
theorem dX11_isOne_47 : decode cX11_isOne 47 = .ok (.ifCond .ne 7, 3) := by decide +kernel
