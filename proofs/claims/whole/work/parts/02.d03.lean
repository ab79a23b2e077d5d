theorem dX5_init_0 : decode cX5_init 0 = .ok (.aload_n 0, 1) := by decide +kernel
theorem dX5_init_1 : decode cX5_init 1 = .ok (.invokespecial 1, 3) := by decide +kernel
theorem dX5_init_4 : decode cX5_init 4 = .ok (.aload_n 0, 1) := by decide +kernel
theorem dX5_init_5 : decode cX5_init 5 = .ok (.sipush 128, 3) := by decide +kernel
theorem dX5_init_8 : decode cX5_init 8 = .ok (.newarray .int, 2) := by decide +kernel
theorem dX5_init_10 : decode cX5_init 10 = .ok (.putfield 9, 3) := by decide +kernel
theorem dX5_init_13 : decode cX5_init 13 = .ok (.aload_n 0, 1) := by decide +kernel
theorem dX5_init_14 : decode cX5_init 14 = .ok (.sipush 128, 3) := by decide +kernel
theorem dX5_init_17 : decode cX5_init 17 = .ok (.newarray .int, 2) := by decide +kernel
theorem dX5_init_19 : decode cX5_init 19 = .ok (.putfield 13, 3) := by decide +kernel
theorem dX5_init_22 : decode cX5_init 22 = .ok (.aload_n 0, 1) := by decide +kernel
theorem dX5_init_23 : decode cX5_init 23 = .ok (.sipush 130, 3) := by decide +kernel
theorem dX5_init_26 : decode cX5_init 26 = .ok (.newarray .int, 2) := by decide +kernel
theorem dX5_init_28 : decode cX5_init 28 = .ok (.putfield 16, 3) := by decide +kernel
theorem dX5_init_31 : decode cX5_init 31 = .ok (.aload_n 0, 1) := by decide +kernel
theorem dX5_init_32 : decode cX5_init 32 = .ok (.iconst 5, 1) := by decide +kernel
theorem dX5_init_33 : decode cX5_init 33 = .ok (.newarray .int, 2) := by decide +kernel
theorem dX5_init_35 : decode cX5_init 35 = .ok (.putfield 19, 3) := by decide +kernel
theorem dX5_init_38 : decode cX5_init 38 = .ok (.return_, 1) := by decide +kernel
theorem dX5_adopt_0 : decode cX5_adopt 0 = .ok (.aload_n 0, 1) := by decide +kernel
theorem dX5_adopt_1 : decode cX5_adopt 1 = .ok (.iconst 0, 1) := by decide +kernel
theorem dX5_adopt_2 : decode cX5_adopt 2 = .ok (.putfield 22, 3) := by decide +kernel
theorem dX5_adopt_5 : decode cX5_adopt 5 = .ok (.iconst 0, 1) := by decide +kernel
theorem dX5_adopt_6 : decode cX5_adopt 6 = .ok (.istore 4, 2) := by decide +kernel
theorem dX5_adopt_8 : decode cX5_adopt 8 = .ok (.iload 4, 2) := by decide +kernel
theorem dX5_adopt_10 : decode cX5_adopt 10 = .ok (.iload_n 3, 1) := by decide +kernel
theorem dX5_adopt_11 : decode cX5_adopt 11 = .ok (.if_icmp .ge 63, 3) := by decide +kernel
theorem dX5_adopt_14 : decode cX5_adopt 14 = .ok (.iload 4, 2) := by decide +kernel
theorem dX5_adopt_16 : decode cX5_adopt 16 = .ok (.sipush 128, 3) := by decide +kernel
theorem dX5_adopt_19 : decode cX5_adopt 19 = .ok (.if_icmp .ge 55, 3) := by decide +kernel
theorem dX5_adopt_22 : decode cX5_adopt 22 = .ok (.iload 4, 2) := by decide +kernel
theorem dX5_adopt_24 : decode cX5_adopt 24 = .ok (.aload_n 1, 1) := by decide +kernel
theorem dX5_adopt_25 : decode cX5_adopt 25 = .ok (.arraylength, 1) := by decide +kernel
theorem dX5_adopt_26 : decode cX5_adopt 26 = .ok (.if_icmp .ge 48, 3) := by decide +kernel
theorem dX5_adopt_29 : decode cX5_adopt 29 = .ok (.iload 4, 2) := by decide +kernel
theorem dX5_adopt_31 : decode cX5_adopt 31 = .ok (.aload_n 2, 1) := by decide +kernel
theorem dX5_adopt_32 : decode cX5_adopt 32 = .ok (.arraylength, 1) := by decide +kernel
theorem dX5_adopt_33 : decode cX5_adopt 33 = .ok (.if_icmp .ge 41, 3) := by decide +kernel
theorem dX5_adopt_36 : decode cX5_adopt 36 = .ok (.aload_n 0, 1) := by decide +kernel
theorem dX5_adopt_37 : decode cX5_adopt 37 = .ok (.getfield 9, 3) := by decide +kernel
theorem dX5_adopt_40 : decode cX5_adopt 40 = .ok (.iload 4, 2) := by decide +kernel
theorem dX5_adopt_42 : decode cX5_adopt 42 = .ok (.aload_n 1, 1) := by decide +kernel
theorem dX5_adopt_43 : decode cX5_adopt 43 = .ok (.iload 4, 2) := by decide +kernel
theorem dX5_adopt_45 : decode cX5_adopt 45 = .ok (.iaload, 1) := by decide +kernel
theorem dX5_adopt_46 : decode cX5_adopt 46 = .ok (.iastore, 1) := by decide +kernel
theorem dX5_adopt_47 : decode cX5_adopt 47 = .ok (.aload_n 0, 1) := by decide +kernel
theorem dX5_adopt_48 : decode cX5_adopt 48 = .ok (.getfield 13, 3) := by decide +kernel
theorem dX5_adopt_51 : decode cX5_adopt 51 = .ok (.iload 4, 2) := by decide +kernel
theorem dX5_adopt_53 : decode cX5_adopt 53 = .ok (.aload_n 2, 1) := by decide +kernel
theorem dX5_adopt_54 : decode cX5_adopt 54 = .ok (.iload 4, 2) := by decide +kernel
theorem dX5_adopt_56 : decode cX5_adopt 56 = .ok (.iaload, 1) := by decide +kernel
theorem dX5_adopt_57 : decode cX5_adopt 57 = .ok (.iastore, 1) := by decide +kernel
theorem dX5_adopt_58 : decode cX5_adopt 58 = .ok (.aload_n 0, 1) := by decide +kernel
theorem dX5_adopt_59 : decode cX5_adopt 59 = .ok (.dup, 1) := by decide +kernel
theorem dX5_adopt_60 : decode cX5_adopt 60 = .ok (.getfield 22, 3) := by decide +kernel
theorem dX5_adopt_63 : decode cX5_adopt 63 = .ok (.iconst 1, 1) := by decide +kernel
theorem dX5_adopt_64 : decode cX5_adopt 64 = .ok (.iadd, 1) := by decide +kernel
theorem dX5_adopt_65 : decode cX5_adopt 65 = .ok (.putfield 22, 3) := by decide +kernel
theorem dX5_adopt_68 : decode cX5_adopt 68 = .ok (.iinc 4 1, 3) := by decide +kernel
theorem dX5_adopt_71 : decode cX5_adopt 71 = .ok (.goto (-63), 3) := by decide +kernel
theorem dX5_adopt_74 : decode cX5_adopt 74 = .ok (.return_, 1) := by decide +kernel
theorem dX5_minutes_0 : decode cX5_minutes 0 = .ok (.aload_n 0, 1) := by decide +kernel
theorem dX5_minutes_1 : decode cX5_minutes 1 = .ok (.getfield 22, 3) := by decide +kernel
theorem dX5_minutes_4 : decode cX5_minutes 4 = .ok (.ifCond .ne 10, 3) := by decide +kernel
theorem dX5_minutes_7 : decode cX5_minutes 7 = .ok (.iload_n 2, 1) := by decide +kernel
theorem dX5_minutes_8 : decode cX5_minutes 8 = .ok (.iload_n 1, 1) := by decide +kernel
theorem dX5_minutes_9 : decode cX5_minutes 9 = .ok (.iadd, 1) := by decide +kernel
theorem dX5_minutes_10 : decode cX5_minutes 10 = .ok (.invokestatic 26, 3) := by decide +kernel
theorem dX5_minutes_13 : decode cX5_minutes 13 = .ok (.ireturn, 1) := by decide +kernel
theorem dX5_minutes_14 : decode cX5_minutes 14 = .ok (.aload_n 0, 1) := by decide +kernel
theorem dX5_minutes_15 : decode cX5_minutes 15 = .ok (.getfield 19, 3) := by decide +kernel
theorem dX5_minutes_18 : decode cX5_minutes 18 = .ok (.iconst 0, 1) := by decide +kernel
theorem dX5_minutes_19 : decode cX5_minutes 19 = .ok (.iload_n 1, 1) := by decide +kernel
theorem dX5_minutes_20 : decode cX5_minutes 20 = .ok (.iastore, 1) := by decide +kernel
theorem dX5_minutes_21 : decode cX5_minutes 21 = .ok (.aload_n 0, 1) := by decide +kernel
theorem dX5_minutes_22 : decode cX5_minutes 22 = .ok (.getfield 19, 3) := by decide +kernel
theorem dX5_minutes_25 : decode cX5_minutes 25 = .ok (.iconst 1, 1) := by decide +kernel
theorem dX5_minutes_26 : decode cX5_minutes 26 = .ok (.iload_n 2, 1) := by decide +kernel
theorem dX5_minutes_27 : decode cX5_minutes 27 = .ok (.iastore, 1) := by decide +kernel
theorem dX5_minutes_28 : decode cX5_minutes 28 = .ok (.aload_n 0, 1) := by decide +kernel
theorem dX5_minutes_29 : decode cX5_minutes 29 = .ok (.getfield 19, 3) := by decide +kernel
theorem dX5_minutes_32 : decode cX5_minutes 32 = .ok (.iconst 2, 1) := by decide +kernel
theorem dX5_minutes_33 : decode cX5_minutes 33 = .ok (.iload_n 3, 1) := by decide +kernel
theorem dX5_minutes_34 : decode cX5_minutes 34 = .ok (.iastore, 1) := by decide +kernel
theorem dX5_minutes_35 : decode cX5_minutes 35 = .ok (.aload_n 0, 1) := by decide +kernel
theorem dX5_minutes_36 : decode cX5_minutes 36 = .ok (.getfield 19, 3) := by decide +kernel
theorem dX5_minutes_39 : decode cX5_minutes 39 = .ok (.iconst 3, 1) := by decide +kernel
theorem dX5_minutes_40 : decode cX5_minutes 40 = .ok (.iload 4, 2) := by decide +kernel
theorem dX5_minutes_42 : decode cX5_minutes 42 = .ok (.iastore, 1) := by decide +kernel
theorem dX5_minutes_43 : decode cX5_minutes 43 = .ok (.aload_n 0, 1) := by decide +kernel
theorem dX5_minutes_44 : decode cX5_minutes 44 = .ok (.getfield 19, 3) := by decide +kernel
theorem dX5_minutes_47 : decode cX5_minutes 47 = .ok (.iconst 4, 1) := by decide +kernel
theorem dX5_minutes_48 : decode cX5_minutes 48 = .ok (.iload 5, 2) := by decide +kernel
theorem dX5_minutes_50 : decode cX5_minutes 50 = .ok (.iastore, 1) := by decide +kernel
theorem dX5_minutes_51 : decode cX5_minutes 51 = .ok (.aload_n 0, 1) := by decide +kernel
theorem dX5_minutes_52 : decode cX5_minutes 52 = .ok (.invokevirtual 30, 3) := by decide +kernel
theorem dX5_minutes_55 : decode cX5_minutes 55 = .ok (.invokestatic 26, 3) := by decide +kernel
theorem dX5_minutes_58 : decode cX5_minutes 58 = .ok (.ireturn, 1) := by decide +kernel
theorem dX5_firstThatCounts_0 : decode cX5_firstThatCounts 0 = .ok (.iconst 2, 1) := by decide +kernel
theorem dX5_firstThatCounts_1 : decode cX5_firstThatCounts 1 = .ok (.istore_n 1, 1) := by decide +kernel
theorem dX5_firstThatCounts_2 : decode cX5_firstThatCounts 2 = .ok (.iconst 1, 1) := by decide +kernel
theorem dX5_firstThatCounts_3 : decode cX5_firstThatCounts 3 = .ok (.istore_n 2, 1) := by decide +kernel
theorem dX5_firstThatCounts_4 : decode cX5_firstThatCounts 4 = .ok (.iconst 0, 1) := by decide +kernel
theorem dX5_firstThatCounts_5 : decode cX5_firstThatCounts 5 = .ok (.istore_n 3, 1) := by decide +kernel
theorem dX5_firstThatCounts_6 : decode cX5_firstThatCounts 6 = .ok (.iload_n 3, 1) := by decide +kernel
theorem dX5_firstThatCounts_7 : decode cX5_firstThatCounts 7 = .ok (.aload_n 0, 1) := by decide +kernel
theorem dX5_firstThatCounts_8 : decode cX5_firstThatCounts 8 = .ok (.getfield 22, 3) := by decide +kernel
theorem dX5_firstThatCounts_11 : decode cX5_firstThatCounts 11 = .ok (.if_icmp .ge 240, 3) := by decide +kernel
theorem dX5_firstThatCounts_14 : decode cX5_firstThatCounts 14 = .ok (.iload_n 3, 1) := by decide +kernel
theorem dX5_firstThatCounts_15 : decode cX5_firstThatCounts 15 = .ok (.sipush 128, 3) := by decide +kernel
theorem dX5_firstThatCounts_18 : decode cX5_firstThatCounts 18 = .ok (.if_icmp .ge 233, 3) := by decide +kernel
theorem dX5_firstThatCounts_21 : decode cX5_firstThatCounts 21 = .ok (.iload_n 1, 1) := by decide +kernel
theorem dX5_firstThatCounts_22 : decode cX5_firstThatCounts 22 = .ok (.iconst 2, 1) := by decide +kernel
theorem dX5_firstThatCounts_23 : decode cX5_firstThatCounts 23 = .ok (.if_icmp .lt 228, 3) := by decide +kernel
theorem dX5_firstThatCounts_26 : decode cX5_firstThatCounts 26 = .ok (.iload_n 1, 1) := by decide +kernel
theorem dX5_firstThatCounts_27 : decode cX5_firstThatCounts 27 = .ok (.aload_n 0, 1) := by decide +kernel
theorem dX5_firstThatCounts_28 : decode cX5_firstThatCounts 28 = .ok (.getfield 16, 3) := by decide +kernel
theorem dX5_firstThatCounts_31 : decode cX5_firstThatCounts 31 = .ok (.arraylength, 1) := by decide +kernel
theorem dX5_firstThatCounts_32 : decode cX5_firstThatCounts 32 = .ok (.if_icmp .ge 219, 3) := by decide +kernel
theorem dX5_firstThatCounts_35 : decode cX5_firstThatCounts 35 = .ok (.aload_n 0, 1) := by decide +kernel
theorem dX5_firstThatCounts_36 : decode cX5_firstThatCounts 36 = .ok (.getfield 16, 3) := by decide +kernel
theorem dX5_firstThatCounts_39 : decode cX5_firstThatCounts 39 = .ok (.iload_n 1, 1) := by decide +kernel
theorem dX5_firstThatCounts_40 : decode cX5_firstThatCounts 40 = .ok (.iconst 1, 1) := by decide +kernel
theorem dX5_firstThatCounts_41 : decode cX5_firstThatCounts 41 = .ok (.isub, 1) := by decide +kernel
theorem dX5_firstThatCounts_42 : decode cX5_firstThatCounts 42 = .ok (.iaload, 1) := by decide +kernel
theorem dX5_firstThatCounts_43 : decode cX5_firstThatCounts 43 = .ok (.istore 4, 2) := by decide +kernel
theorem dX5_firstThatCounts_45 : decode cX5_firstThatCounts 45 = .ok (.aload_n 0, 1) := by decide +kernel
theorem dX5_firstThatCounts_46 : decode cX5_firstThatCounts 46 = .ok (.getfield 9, 3) := by decide +kernel
theorem dX5_firstThatCounts_49 : decode cX5_firstThatCounts 49 = .ok (.iload_n 3, 1) := by decide +kernel
theorem dX5_firstThatCounts_50 : decode cX5_firstThatCounts 50 = .ok (.iaload, 1) := by decide +kernel
theorem dX5_firstThatCounts_51 : decode cX5_firstThatCounts 51 = .ok (.lookupswitch 164 #[(33, 97), (48, 57), (59, 149), (63, 132), (110, 75), (126, 118)], 57) := by decide +kernel
theorem dX5_firstThatCounts_108 : decode cX5_firstThatCounts 108 = .ok (.aload_n 0, 1) := by decide +kernel
theorem dX5_firstThatCounts_109 : decode cX5_firstThatCounts 109 = .ok (.getfield 16, 3) := by decide +kernel
theorem dX5_firstThatCounts_112 : decode cX5_firstThatCounts 112 = .ok (.iload_n 1, 1) := by decide +kernel
theorem dX5_firstThatCounts_113 : decode cX5_firstThatCounts 113 = .ok (.aload_n 0, 1) := by decide +kernel
theorem dX5_firstThatCounts_114 : decode cX5_firstThatCounts 114 = .ok (.getfield 13, 3) := by decide +kernel
theorem dX5_firstThatCounts_117 : decode cX5_firstThatCounts 117 = .ok (.iload_n 3, 1) := by decide +kernel
theorem dX5_firstThatCounts_118 : decode cX5_firstThatCounts 118 = .ok (.iaload, 1) := by decide +kernel
theorem dX5_firstThatCounts_119 : decode cX5_firstThatCounts 119 = .ok (.iastore, 1) := by decide +kernel
theorem dX5_firstThatCounts_120 : decode cX5_firstThatCounts 120 = .ok (.iinc 1 1, 3) := by decide +kernel
theorem dX5_firstThatCounts_123 : decode cX5_firstThatCounts 123 = .ok (.goto 122, 3) := by decide +kernel
theorem dX5_firstThatCounts_126 : decode cX5_firstThatCounts 126 = .ok (.aload_n 0, 1) := by decide +kernel
theorem dX5_firstThatCounts_127 : decode cX5_firstThatCounts 127 = .ok (.getfield 16, 3) := by decide +kernel
theorem dX5_firstThatCounts_130 : decode cX5_firstThatCounts 130 = .ok (.iload_n 1, 1) := by decide +kernel
theorem dX5_firstThatCounts_131 : decode cX5_firstThatCounts 131 = .ok (.aload_n 0, 1) := by decide +kernel
theorem dX5_firstThatCounts_132 : decode cX5_firstThatCounts 132 = .ok (.aload_n 0, 1) := by decide +kernel
theorem dX5_firstThatCounts_133 : decode cX5_firstThatCounts 133 = .ok (.getfield 13, 3) := by decide +kernel
theorem dX5_firstThatCounts_136 : decode cX5_firstThatCounts 136 = .ok (.iload_n 3, 1) := by decide +kernel
theorem dX5_firstThatCounts_137 : decode cX5_firstThatCounts 137 = .ok (.iaload, 1) := by decide +kernel
theorem dX5_firstThatCounts_138 : decode cX5_firstThatCounts 138 = .ok (.invokevirtual 34, 3) := by decide +kernel
theorem dX5_firstThatCounts_141 : decode cX5_firstThatCounts 141 = .ok (.iastore, 1) := by decide +kernel
theorem dX5_firstThatCounts_142 : decode cX5_firstThatCounts 142 = .ok (.iinc 1 1, 3) := by decide +kernel
theorem dX5_firstThatCounts_145 : decode cX5_firstThatCounts 145 = .ok (.goto 100, 3) := by decide +kernel
theorem dX5_firstThatCounts_148 : decode cX5_firstThatCounts 148 = .ok (.aload_n 0, 1) := by decide +kernel
theorem dX5_firstThatCounts_149 : decode cX5_firstThatCounts 149 = .ok (.getfield 16, 3) := by decide +kernel
theorem dX5_firstThatCounts_152 : decode cX5_firstThatCounts 152 = .ok (.iload_n 1, 1) := by decide +kernel
theorem dX5_firstThatCounts_153 : decode cX5_firstThatCounts 153 = .ok (.iconst 1, 1) := by decide +kernel
theorem dX5_firstThatCounts_154 : decode cX5_firstThatCounts 154 = .ok (.isub, 1) := by decide +kernel
theorem dX5_firstThatCounts_155 : decode cX5_firstThatCounts 155 = .ok (.iload 4, 2) := by decide +kernel
theorem dX5_firstThatCounts_157 : decode cX5_firstThatCounts 157 = .ok (.ifCond .ne 7, 3) := by decide +kernel
theorem dX5_firstThatCounts_160 : decode cX5_firstThatCounts 160 = .ok (.iconst 1, 1) := by decide +kernel
theorem dX5_firstThatCounts_161 : decode cX5_firstThatCounts 161 = .ok (.goto 4, 3) := by decide +kernel
theorem dX5_firstThatCounts_164 : decode cX5_firstThatCounts 164 = .ok (.iconst 0, 1) := by decide +kernel
theorem dX5_firstThatCounts_165 : decode cX5_firstThatCounts 165 = .ok (.iastore, 1) := by decide +kernel
theorem dX5_firstThatCounts_166 : decode cX5_firstThatCounts 166 = .ok (.goto 79, 3) := by decide +kernel
theorem dX5_firstThatCounts_169 : decode cX5_firstThatCounts 169 = .ok (.aload_n 0, 1) := by decide +kernel
theorem dX5_firstThatCounts_170 : decode cX5_firstThatCounts 170 = .ok (.getfield 16, 3) := by decide +kernel
theorem dX5_firstThatCounts_173 : decode cX5_firstThatCounts 173 = .ok (.iload_n 1, 1) := by decide +kernel
theorem dX5_firstThatCounts_174 : decode cX5_firstThatCounts 174 = .ok (.iconst 1, 1) := by decide +kernel
theorem dX5_firstThatCounts_175 : decode cX5_firstThatCounts 175 = .ok (.isub, 1) := by decide +kernel
theorem dX5_firstThatCounts_176 : decode cX5_firstThatCounts 176 = .ok (.iload 4, 2) := by decide +kernel
theorem dX5_firstThatCounts_178 : decode cX5_firstThatCounts 178 = .ok (.ineg, 1) := by decide +kernel
theorem dX5_firstThatCounts_179 : decode cX5_firstThatCounts 179 = .ok (.iastore, 1) := by decide +kernel
theorem dX5_firstThatCounts_180 : decode cX5_firstThatCounts 180 = .ok (.goto 65, 3) := by decide +kernel
theorem dX5_firstThatCounts_183 : decode cX5_firstThatCounts 183 = .ok (.iload 4, 2) := by decide +kernel
theorem dX5_firstThatCounts_185 : decode cX5_firstThatCounts 185 = .ok (.ifCond .eq 7, 3) := by decide +kernel
theorem dX5_firstThatCounts_188 : decode cX5_firstThatCounts 188 = .ok (.iconst 1, 1) := by decide +kernel
theorem dX5_firstThatCounts_189 : decode cX5_firstThatCounts 189 = .ok (.goto 4, 3) := by decide +kernel
theorem dX5_firstThatCounts_192 : decode cX5_firstThatCounts 192 = .ok (.iconst 0, 1) := by decide +kernel
theorem dX5_firstThatCounts_193 : decode cX5_firstThatCounts 193 = .ok (.istore_n 2, 1) := by decide +kernel
theorem dX5_firstThatCounts_194 : decode cX5_firstThatCounts 194 = .ok (.iinc 1 (-1), 3) := by decide +kernel
theorem dX5_firstThatCounts_197 : decode cX5_firstThatCounts 197 = .ok (.goto 48, 3) := by decide +kernel
theorem dX5_firstThatCounts_200 : decode cX5_firstThatCounts 200 = .ok (.iload_n 2, 1) := by decide +kernel
theorem dX5_firstThatCounts_201 : decode cX5_firstThatCounts 201 = .ok (.ifCond .eq 6, 3) := by decide +kernel
theorem dX5_firstThatCounts_204 : decode cX5_firstThatCounts 204 = .ok (.iload 4, 2) := by decide +kernel
theorem dX5_firstThatCounts_206 : decode cX5_firstThatCounts 206 = .ok (.ireturn, 1) := by decide +kernel
theorem dX5_firstThatCounts_207 : decode cX5_firstThatCounts 207 = .ok (.iconst 1, 1) := by decide +kernel
theorem dX5_firstThatCounts_208 : decode cX5_firstThatCounts 208 = .ok (.istore_n 2, 1) := by decide +kernel
theorem dX5_firstThatCounts_209 : decode cX5_firstThatCounts 209 = .ok (.iinc 1 (-1), 3) := by decide +kernel
theorem dX5_firstThatCounts_212 : decode cX5_firstThatCounts 212 = .ok (.goto 33, 3) := by decide +kernel
theorem dX5_firstThatCounts_215 : decode cX5_firstThatCounts 215 = .ok (.aload_n 0, 1) := by decide +kernel
theorem dX5_firstThatCounts_216 : decode cX5_firstThatCounts 216 = .ok (.getfield 16, 3) := by decide +kernel
theorem dX5_firstThatCounts_219 : decode cX5_firstThatCounts 219 = .ok (.iload_n 1, 1) := by decide +kernel
theorem dX5_firstThatCounts_220 : decode cX5_firstThatCounts 220 = .ok (.iconst 2, 1) := by decide +kernel
theorem dX5_firstThatCounts_221 : decode cX5_firstThatCounts 221 = .ok (.isub, 1) := by decide +kernel
theorem dX5_firstThatCounts_222 : decode cX5_firstThatCounts 222 = .ok (.aload_n 0, 1) := by decide +kernel
theorem dX5_firstThatCounts_223 : decode cX5_firstThatCounts 223 = .ok (.getfield 9, 3) := by decide +kernel
theorem dX5_firstThatCounts_226 : decode cX5_firstThatCounts 226 = .ok (.iload_n 3, 1) := by decide +kernel
theorem dX5_firstThatCounts_227 : decode cX5_firstThatCounts 227 = .ok (.iaload, 1) := by decide +kernel
theorem dX5_firstThatCounts_228 : decode cX5_firstThatCounts 228 = .ok (.aload_n 0, 1) := by decide +kernel
theorem dX5_firstThatCounts_229 : decode cX5_firstThatCounts 229 = .ok (.getfield 16, 3) := by decide +kernel
theorem dX5_firstThatCounts_232 : decode cX5_firstThatCounts 232 = .ok (.iload_n 1, 1) := by decide +kernel
theorem dX5_firstThatCounts_233 : decode cX5_firstThatCounts 233 = .ok (.iconst 2, 1) := by decide +kernel
theorem dX5_firstThatCounts_234 : decode cX5_firstThatCounts 234 = .ok (.isub, 1) := by decide +kernel
theorem dX5_firstThatCounts_235 : decode cX5_firstThatCounts 235 = .ok (.iaload, 1) := by decide +kernel
theorem dX5_firstThatCounts_236 : decode cX5_firstThatCounts 236 = .ok (.iload 4, 2) := by decide +kernel
theorem dX5_firstThatCounts_238 : decode cX5_firstThatCounts 238 = .ok (.invokestatic 37, 3) := by decide +kernel
theorem dX5_firstThatCounts_241 : decode cX5_firstThatCounts 241 = .ok (.iastore, 1) := by decide +kernel
theorem dX5_firstThatCounts_242 : decode cX5_firstThatCounts 242 = .ok (.iinc 1 (-1), 3) := by decide +kernel
theorem dX5_firstThatCounts_245 : decode cX5_firstThatCounts 245 = .ok (.iinc 3 1, 3) := by decide +kernel
theorem dX5_firstThatCounts_248 : decode cX5_firstThatCounts 248 = .ok (.goto (-242), 3) := by decide +kernel
theorem dX5_firstThatCounts_251 : decode cX5_firstThatCounts 251 = .ok (.iconst 0, 1) := by decide +kernel
theorem dX5_firstThatCounts_252 : decode cX5_firstThatCounts 252 = .ok (.ireturn, 1) := by decide +kernel
theorem dX5_named_0 : decode cX5_named 0 = .ok (.iload_n 1, 1) := by decide +kernel
theorem dX5_named_1 : decode cX5_named 1 = .ok (.ifCond .lt 21, 3) := by decide +kernel
theorem dX5_named_4 : decode cX5_named 4 = .ok (.iload_n 1, 1) := by decide +kernel
theorem dX5_named_5 : decode cX5_named 5 = .ok (.aload_n 0, 1) := by decide +kernel
theorem dX5_named_6 : decode cX5_named 6 = .ok (.getfield 19, 3) := by decide +kernel
theorem dX5_named_9 : decode cX5_named 9 = .ok (.arraylength, 1) := by decide +kernel
theorem dX5_named_10 : decode cX5_named 10 = .ok (.if_icmp .ge 12, 3) := by decide +kernel
theorem dX5_named_13 : decode cX5_named 13 = .ok (.aload_n 0, 1) := by decide +kernel
theorem dX5_named_14 : decode cX5_named 14 = .ok (.getfield 19, 3) := by decide +kernel
theorem dX5_named_17 : decode cX5_named 17 = .ok (.iload_n 1, 1) := by decide +kernel
theorem dX5_named_18 : decode cX5_named 18 = .ok (.iaload, 1) := by decide +kernel
theorem dX5_named_19 : decode cX5_named 19 = .ok (.goto 4, 3) := by decide +kernel
theorem dX5_named_22 : decode cX5_named 22 = .ok (.iconst 0, 1) := by decide +kernel
theorem dX5_named_23 : decode cX5_named 23 = .ok (.ireturn, 1) := by decide +kernel
theorem dX5_together_0 : decode cX5_together 0 = .ok (.iload_n 0, 1) := by decide +kernel
theorem dX5_together_1 : decode cX5_together 1 = .ok (.lookupswitch 188 #[(37, 176), (38, 105), (42, 160), (43, 152), (45, 156), (47, 164), (60, 119), (61, 130), (62, 141), (124, 91)], 91) := by decide +kernel
theorem dX5_together_92 : decode cX5_together 92 = .ok (.iload_n 1, 1) := by decide +kernel
theorem dX5_together_93 : decode cX5_together 93 = .ok (.ifCond .ne 7, 3) := by decide +kernel
theorem dX5_together_96 : decode cX5_together 96 = .ok (.iload_n 2, 1) := by decide +kernel
theorem dX5_together_97 : decode cX5_together 97 = .ok (.ifCond .eq 7, 3) := by decide +kernel
theorem dX5_together_100 : decode cX5_together 100 = .ok (.iconst 1, 1) := by decide +kernel
theorem dX5_together_101 : decode cX5_together 101 = .ok (.goto 4, 3) := by decide +kernel
theorem dX5_together_104 : decode cX5_together 104 = .ok (.iconst 0, 1) := by decide +kernel
theorem dX5_together_105 : decode cX5_together 105 = .ok (.ireturn, 1) := by decide +kernel
theorem dX5_together_106 : decode cX5_together 106 = .ok (.iload_n 1, 1) := by decide +kernel
theorem dX5_together_107 : decode cX5_together 107 = .ok (.ifCond .eq 11, 3) := by decide +kernel
theorem dX5_together_110 : decode cX5_together 110 = .ok (.iload_n 2, 1) := by decide +kernel
theorem dX5_together_111 : decode cX5_together 111 = .ok (.ifCond .eq 7, 3) := by decide +kernel
theorem dX5_together_114 : decode cX5_together 114 = .ok (.iconst 1, 1) := by decide +kernel
theorem dX5_together_115 : decode cX5_together 115 = .ok (.goto 4, 3) := by decide +kernel
theorem dX5_together_118 : decode cX5_together 118 = .ok (.iconst 0, 1) := by decide +kernel
theorem dX5_together_119 : decode cX5_together 119 = .ok (.ireturn, 1) := by decide +kernel
theorem dX5_together_120 : decode cX5_together 120 = .ok (.iload_n 1, 1) := by decide +kernel
theorem dX5_together_121 : decode cX5_together 121 = .ok (.iload_n 2, 1) := by decide +kernel
theorem dX5_together_122 : decode cX5_together 122 = .ok (.if_icmp .ge 7, 3) := by decide +kernel
theorem dX5_together_125 : decode cX5_together 125 = .ok (.iconst 1, 1) := by decide +kernel
theorem dX5_together_126 : decode cX5_together 126 = .ok (.goto 4, 3) := by decide +kernel
theorem dX5_together_129 : decode cX5_together 129 = .ok (.iconst 0, 1) := by decide +kernel
theorem dX5_together_130 : decode cX5_together 130 = .ok (.ireturn, 1) := by decide +kernel
theorem dX5_together_131 : decode cX5_together 131 = .ok (.iload_n 1, 1) := by decide +kernel
theorem dX5_together_132 : decode cX5_together 132 = .ok (.iload_n 2, 1) := by decide +kernel
theorem dX5_together_133 : decode cX5_together 133 = .ok (.if_icmp .ne 7, 3) := by decide +kernel
theorem dX5_together_136 : decode cX5_together 136 = .ok (.iconst 1, 1) := by decide +kernel
theorem dX5_together_137 : decode cX5_together 137 = .ok (.goto 4, 3) := by decide +kernel
theorem dX5_together_140 : decode cX5_together 140 = .ok (.iconst 0, 1) := by decide +kernel
theorem dX5_together_141 : decode cX5_together 141 = .ok (.ireturn, 1) := by decide +kernel
theorem dX5_together_142 : decode cX5_together 142 = .ok (.iload_n 1, 1) := by decide +kernel
theorem dX5_together_143 : decode cX5_together 143 = .ok (.iload_n 2, 1) := by decide +kernel
theorem dX5_together_144 : decode cX5_together 144 = .ok (.if_icmp .le 7, 3) := by decide +kernel
theorem dX5_together_147 : decode cX5_together 147 = .ok (.iconst 1, 1) := by decide +kernel
theorem dX5_together_148 : decode cX5_together 148 = .ok (.goto 4, 3) := by decide +kernel
theorem dX5_together_151 : decode cX5_together 151 = .ok (.iconst 0, 1) := by decide +kernel
theorem dX5_together_152 : decode cX5_together 152 = .ok (.ireturn, 1) := by decide +kernel
theorem dX5_together_153 : decode cX5_together 153 = .ok (.iload_n 1, 1) := by decide +kernel
theorem dX5_together_154 : decode cX5_together 154 = .ok (.iload_n 2, 1) := by decide +kernel
theorem dX5_together_155 : decode cX5_together 155 = .ok (.iadd, 1) := by decide +kernel
theorem dX5_together_156 : decode cX5_together 156 = .ok (.ireturn, 1) := by decide +kernel
theorem dX5_together_157 : decode cX5_together 157 = .ok (.iload_n 1, 1) := by decide +kernel
theorem dX5_together_158 : decode cX5_together 158 = .ok (.iload_n 2, 1) := by decide +kernel
theorem dX5_together_159 : decode cX5_together 159 = .ok (.isub, 1) := by decide +kernel
theorem dX5_together_160 : decode cX5_together 160 = .ok (.ireturn, 1) := by decide +kernel
theorem dX5_together_161 : decode cX5_together 161 = .ok (.iload_n 1, 1) := by decide +kernel
theorem dX5_together_162 : decode cX5_together 162 = .ok (.iload_n 2, 1) := by decide +kernel
theorem dX5_together_163 : decode cX5_together 163 = .ok (.imul, 1) := by decide +kernel
theorem dX5_together_164 : decode cX5_together 164 = .ok (.ireturn, 1) := by decide +kernel
theorem dX5_together_165 : decode cX5_together 165 = .ok (.iload_n 2, 1) := by decide +kernel
theorem dX5_together_166 : decode cX5_together 166 = .ok (.ifCond .ne 7, 3) := by decide +kernel
theorem dX5_together_169 : decode cX5_together 169 = .ok (.iconst 0, 1) := by decide +kernel
theorem dX5_together_170 : decode cX5_together 170 = .ok (.goto 6, 3) := by decide +kernel
theorem dX5_together_173 : decode cX5_together 173 = .ok (.iload_n 1, 1) := by decide +kernel
theorem dX5_together_174 : decode cX5_together 174 = .ok (.iload_n 2, 1) := by decide +kernel
theorem dX5_together_175 : decode cX5_together 175 = .ok (.idiv, 1) := by decide +kernel
theorem dX5_together_176 : decode cX5_together 176 = .ok (.ireturn, 1) := by decide +kernel
theorem dX5_together_177 : decode cX5_together 177 = .ok (.iload_n 2, 1) := by decide +kernel
theorem dX5_together_178 : decode cX5_together 178 = .ok (.ifCond .ne 7, 3) := by decide +kernel
theorem dX5_together_181 : decode cX5_together 181 = .ok (.iconst 0, 1) := by decide +kernel
theorem dX5_together_182 : decode cX5_together 182 = .ok (.goto 6, 3) := by decide +kernel
theorem dX5_together_185 : decode cX5_together 185 = .ok (.iload_n 1, 1) := by decide +kernel
theorem dX5_together_186 : decode cX5_together 186 = .ok (.iload_n 2, 1) := by decide +kernel
theorem dX5_together_187 : decode cX5_together 187 = .ok (.irem, 1) := by decide +kernel
theorem dX5_together_188 : decode cX5_together 188 = .ok (.ireturn, 1) := by decide +kernel
theorem dX5_together_189 : decode cX5_together 189 = .ok (.iconst 0, 1) := by decide +kernel
theorem dX5_together_190 : decode cX5_together 190 = .ok (.ireturn, 1) := by decide +kernel
theorem dX5_held_0 : decode cX5_held 0 = .ok (.iconst 1, 1) := by decide +kernel
theorem dX5_held_1 : decode cX5_held 1 = .ok (.bipush 60, 2) := by decide +kernel
theorem dX5_held_3 : decode cX5_held 3 = .ok (.iload_n 0, 1) := by decide +kernel
theorem dX5_held_4 : decode cX5_held 4 = .ok (.invokestatic 41, 3) := by decide +kernel
theorem dX5_held_7 : decode cX5_held 7 = .ok (.invokestatic 47, 3) := by decide +kernel
theorem dX5_held_10 : decode cX5_held 10 = .ok (.ireturn, 1) := by decide +kernel
