theorem dX11_worked_142 : decode cX11_worked 142 = .ok (.isub, 1) := by decide +kernel
theorem dX11_worked_143 : decode cX11_worked 143 = .ok (.iaload, 1) := by decide +kernel
theorem dX11_worked_144 : decode cX11_worked 144 = .ok (.ineg, 1) := by decide +kernel
theorem dX11_worked_145 : decode cX11_worked 145 = .ok (.iastore, 1) := by decide +kernel
theorem dX11_worked_146 : decode cX11_worked 146 = .ok (.goto 36, 3) := by decide +kernel
theorem dX11_worked_149 : decode cX11_worked 149 = .ok (.iinc 4 (-1), 3) := by decide +kernel
theorem dX11_worked_152 : decode cX11_worked 152 = .ok (.aload_n 0, 1) := by decide +kernel
theorem dX11_worked_153 : decode cX11_worked 153 = .ok (.getfield 72, 3) := by decide +kernel
theorem dX11_worked_156 : decode cX11_worked 156 = .ok (.iload 4, 2) := by decide +kernel
theorem dX11_worked_158 : decode cX11_worked 158 = .ok (.iconst 1, 1) := by decide +kernel
theorem dX11_worked_159 : decode cX11_worked 159 = .ok (.isub, 1) := by decide +kernel
theorem dX11_worked_160 : decode cX11_worked 160 = .ok (.iload 6, 2) := by decide +kernel
theorem dX11_worked_162 : decode cX11_worked 162 = .ok (.aload_n 0, 1) := by decide +kernel
theorem dX11_worked_163 : decode cX11_worked 163 = .ok (.getfield 72, 3) := by decide +kernel
theorem dX11_worked_166 : decode cX11_worked 166 = .ok (.iload 4, 2) := by decide +kernel
theorem dX11_worked_168 : decode cX11_worked 168 = .ok (.iconst 1, 1) := by decide +kernel
theorem dX11_worked_169 : decode cX11_worked 169 = .ok (.isub, 1) := by decide +kernel
theorem dX11_worked_170 : decode cX11_worked 170 = .ok (.iaload, 1) := by decide +kernel
theorem dX11_worked_171 : decode cX11_worked 171 = .ok (.aload_n 0, 1) := by decide +kernel
theorem dX11_worked_172 : decode cX11_worked 172 = .ok (.getfield 72, 3) := by decide +kernel
theorem dX11_worked_175 : decode cX11_worked 175 = .ok (.iload 4, 2) := by decide +kernel
theorem dX11_worked_177 : decode cX11_worked 177 = .ok (.iaload, 1) := by decide +kernel
theorem dX11_worked_178 : decode cX11_worked 178 = .ok (.invokestatic 221, 3) := by decide +kernel
theorem dX11_worked_181 : decode cX11_worked 181 = .ok (.iastore, 1) := by decide +kernel
theorem dX11_worked_182 : decode cX11_worked 182 = .ok (.iinc 5 1, 3) := by decide +kernel
theorem dX11_worked_185 : decode cX11_worked 185 = .ok (.goto (-173), 3) := by decide +kernel
theorem dX11_worked_188 : decode cX11_worked 188 = .ok (.aload_n 0, 1) := by decide +kernel
theorem dX11_worked_189 : decode cX11_worked 189 = .ok (.getfield 72, 3) := by decide +kernel
theorem dX11_worked_192 : decode cX11_worked 192 = .ok (.iconst 0, 1) := by decide +kernel
theorem dX11_worked_193 : decode cX11_worked 193 = .ok (.iaload, 1) := by decide +kernel
theorem dX11_worked_194 : decode cX11_worked 194 = .ok (.ireturn, 1) := by decide +kernel
theorem dX11_gives_0 : decode cX11_gives 0 = .ok (.iconst 0, 1) := by decide +kernel
theorem dX11_gives_1 : decode cX11_gives 1 = .ok (.istore_n 2, 1) := by decide +kernel
theorem dX11_gives_2 : decode cX11_gives 2 = .ok (.bipush 61, 2) := by decide +kernel
theorem dX11_gives_4 : decode cX11_gives 4 = .ok (.iload_n 1, 1) := by decide +kernel
theorem dX11_gives_5 : decode cX11_gives 5 = .ok (.imul, 1) := by decide +kernel
theorem dX11_gives_6 : decode cX11_gives 6 = .ok (.istore_n 3, 1) := by decide +kernel
theorem dX11_gives_7 : decode cX11_gives 7 = .ok (.iload_n 3, 1) := by decide +kernel
theorem dX11_gives_8 : decode cX11_gives 8 = .ok (.bipush 61, 2) := by decide +kernel
theorem dX11_gives_10 : decode cX11_gives 10 = .ok (.iload_n 1, 1) := by decide +kernel
theorem dX11_gives_11 : decode cX11_gives 11 = .ok (.imul, 1) := by decide +kernel
theorem dX11_gives_12 : decode cX11_gives 12 = .ok (.aload_n 0, 1) := by decide +kernel
theorem dX11_gives_13 : decode cX11_gives 13 = .ok (.getfield 59, 3) := by decide +kernel
theorem dX11_gives_16 : decode cX11_gives 16 = .ok (.iload_n 1, 1) := by decide +kernel
theorem dX11_gives_17 : decode cX11_gives 17 = .ok (.iaload, 1) := by decide +kernel
theorem dX11_gives_18 : decode cX11_gives 18 = .ok (.iadd, 1) := by decide +kernel
theorem dX11_gives_19 : decode cX11_gives 19 = .ok (.if_icmp .ge 59, 3) := by decide +kernel
theorem dX11_gives_22 : decode cX11_gives 22 = .ok (.aload_n 0, 1) := by decide +kernel
theorem dX11_gives_23 : decode cX11_gives 23 = .ok (.getfield 62, 3) := by decide +kernel
theorem dX11_gives_26 : decode cX11_gives 26 = .ok (.iload_n 3, 1) := by decide +kernel
theorem dX11_gives_27 : decode cX11_gives 27 = .ok (.saload, 1) := by decide +kernel
theorem dX11_gives_28 : decode cX11_gives 28 = .ok (.iload_n 2, 1) := by decide +kernel
theorem dX11_gives_29 : decode cX11_gives 29 = .ok (.if_icmp .eq 18, 3) := by decide +kernel
theorem dX11_gives_32 : decode cX11_gives 32 = .ok (.aload_n 0, 1) := by decide +kernel
theorem dX11_gives_33 : decode cX11_gives 33 = .ok (.iload_n 1, 1) := by decide +kernel
theorem dX11_gives_34 : decode cX11_gives 34 = .ok (.iload_n 2, 1) := by decide +kernel
theorem dX11_gives_35 : decode cX11_gives 35 = .ok (.aload_n 0, 1) := by decide +kernel
theorem dX11_gives_36 : decode cX11_gives 36 = .ok (.getfield 62, 3) := by decide +kernel
theorem dX11_gives_39 : decode cX11_gives 39 = .ok (.iload_n 3, 1) := by decide +kernel
theorem dX11_gives_40 : decode cX11_gives 40 = .ok (.saload, 1) := by decide +kernel
theorem dX11_gives_41 : decode cX11_gives 41 = .ok (.invokevirtual 224, 3) := by decide +kernel
theorem dX11_gives_44 : decode cX11_gives 44 = .ok (.ifCond .eq 21, 3) := by decide +kernel
theorem dX11_gives_47 : decode cX11_gives 47 = .ok (.aload_n 0, 1) := by decide +kernel
theorem dX11_gives_48 : decode cX11_gives 48 = .ok (.iload_n 1, 1) := by decide +kernel
theorem dX11_gives_49 : decode cX11_gives 49 = .ok (.aload_n 0, 1) := by decide +kernel
theorem dX11_gives_50 : decode cX11_gives 50 = .ok (.getfield 62, 3) := by decide +kernel
theorem dX11_gives_53 : decode cX11_gives 53 = .ok (.iload_n 3, 1) := by decide +kernel
theorem dX11_gives_54 : decode cX11_gives 54 = .ok (.saload, 1) := by decide +kernel
theorem dX11_gives_55 : decode cX11_gives 55 = .ok (.aload_n 0, 1) := by decide +kernel
theorem dX11_gives_56 : decode cX11_gives 56 = .ok (.getfield 66, 3) := by decide +kernel
theorem dX11_gives_59 : decode cX11_gives 59 = .ok (.iload_n 3, 1) := by decide +kernel
theorem dX11_gives_60 : decode cX11_gives 60 = .ok (.saload, 1) := by decide +kernel
theorem dX11_gives_61 : decode cX11_gives 61 = .ok (.invokevirtual 224, 3) := by decide +kernel
theorem dX11_gives_64 : decode cX11_gives 64 = .ok (.ireturn, 1) := by decide +kernel
theorem dX11_gives_65 : decode cX11_gives 65 = .ok (.aload_n 0, 1) := by decide +kernel
theorem dX11_gives_66 : decode cX11_gives 66 = .ok (.getfield 66, 3) := by decide +kernel
theorem dX11_gives_69 : decode cX11_gives 69 = .ok (.iload_n 3, 1) := by decide +kernel
theorem dX11_gives_70 : decode cX11_gives 70 = .ok (.saload, 1) := by decide +kernel
theorem dX11_gives_71 : decode cX11_gives 71 = .ok (.istore_n 2, 1) := by decide +kernel
theorem dX11_gives_72 : decode cX11_gives 72 = .ok (.iinc 3 1, 3) := by decide +kernel
theorem dX11_gives_75 : decode cX11_gives 75 = .ok (.goto (-68), 3) := by decide +kernel
theorem dX11_gives_78 : decode cX11_gives 78 = .ok (.iconst 0, 1) := by decide +kernel
theorem dX11_gives_79 : decode cX11_gives 79 = .ok (.ireturn, 1) := by decide +kernel
theorem dX11_law_0 : decode cX11_law 0 = .ok (.aload_n 0, 1) := by decide +kernel
theorem dX11_law_1 : decode cX11_law 1 = .ok (.iconst 0, 1) := by decide +kernel
theorem dX11_law_2 : decode cX11_law 2 = .ok (.invokevirtual 227, 3) := by decide +kernel
theorem dX11_law_5 : decode cX11_law 5 = .ok (.istore_n 1, 1) := by decide +kernel
theorem dX11_law_6 : decode cX11_law 6 = .ok (.iload_n 1, 1) := by decide +kernel
theorem dX11_law_7 : decode cX11_law 7 = .ok (.ifCond .lt 8, 3) := by decide +kernel
theorem dX11_law_10 : decode cX11_law 10 = .ok (.bipush (-100), 2) := by decide +kernel
theorem dX11_law_12 : decode cX11_law 12 = .ok (.iload_n 1, 1) := by decide +kernel
theorem dX11_law_13 : decode cX11_law 13 = .ok (.isub, 1) := by decide +kernel
theorem dX11_law_14 : decode cX11_law 14 = .ok (.ireturn, 1) := by decide +kernel
theorem dX11_law_15 : decode cX11_law 15 = .ok (.aload_n 0, 1) := by decide +kernel
theorem dX11_law_16 : decode cX11_law 16 = .ok (.iconst 1, 1) := by decide +kernel
theorem dX11_law_17 : decode cX11_law 17 = .ok (.putfield 230, 3) := by decide +kernel
theorem dX11_law_20 : decode cX11_law 20 = .ok (.iconst 1, 1) := by decide +kernel
theorem dX11_law_21 : decode cX11_law 21 = .ok (.ireturn, 1) := by decide +kernel
theorem dX11_goingTakes_0 : decode cX11_goingTakes 0 = .ok (.aload_n 0, 1) := by decide +kernel
theorem dX11_goingTakes_1 : decode cX11_goingTakes 1 = .ok (.getfield 27, 3) := by decide +kernel
theorem dX11_goingTakes_4 : decode cX11_goingTakes 4 = .ok (.iload_n 2, 1) := by decide +kernel
theorem dX11_goingTakes_5 : decode cX11_goingTakes 5 = .ok (.iaload, 1) := by decide +kernel
theorem dX11_goingTakes_6 : decode cX11_goingTakes 6 = .ok (.iload_n 1, 1) := by decide +kernel
theorem dX11_goingTakes_7 : decode cX11_goingTakes 7 = .ok (.iadd, 1) := by decide +kernel
theorem dX11_goingTakes_8 : decode cX11_goingTakes 8 = .ok (.istore 6, 2) := by decide +kernel
theorem dX11_goingTakes_10 : decode cX11_goingTakes 10 = .ok (.aload_n 0, 1) := by decide +kernel
theorem dX11_goingTakes_11 : decode cX11_goingTakes 11 = .ok (.getfield 230, 3) := by decide +kernel
theorem dX11_goingTakes_14 : decode cX11_goingTakes 14 = .ok (.ifCond .eq 52, 3) := by decide +kernel
theorem dX11_goingTakes_17 : decode cX11_goingTakes 17 = .ok (.aload_n 0, 1) := by decide +kernel
theorem dX11_goingTakes_18 : decode cX11_goingTakes 18 = .ok (.getfield 69, 3) := by decide +kernel
theorem dX11_goingTakes_21 : decode cX11_goingTakes 21 = .ok (.iconst 0, 1) := by decide +kernel
theorem dX11_goingTakes_22 : decode cX11_goingTakes 22 = .ok (.iload_n 1, 1) := by decide +kernel
theorem dX11_goingTakes_23 : decode cX11_goingTakes 23 = .ok (.iastore, 1) := by decide +kernel
theorem dX11_goingTakes_24 : decode cX11_goingTakes 24 = .ok (.aload_n 0, 1) := by decide +kernel
theorem dX11_goingTakes_25 : decode cX11_goingTakes 25 = .ok (.getfield 69, 3) := by decide +kernel
theorem dX11_goingTakes_28 : decode cX11_goingTakes 28 = .ok (.iconst 1, 1) := by decide +kernel
theorem dX11_goingTakes_29 : decode cX11_goingTakes 29 = .ok (.aload_n 0, 1) := by decide +kernel
theorem dX11_goingTakes_30 : decode cX11_goingTakes 30 = .ok (.getfield 27, 3) := by decide +kernel
theorem dX11_goingTakes_33 : decode cX11_goingTakes 33 = .ok (.iload_n 2, 1) := by decide +kernel
theorem dX11_goingTakes_34 : decode cX11_goingTakes 34 = .ok (.iaload, 1) := by decide +kernel
theorem dX11_goingTakes_35 : decode cX11_goingTakes 35 = .ok (.iastore, 1) := by decide +kernel
theorem dX11_goingTakes_36 : decode cX11_goingTakes 36 = .ok (.aload_n 0, 1) := by decide +kernel
theorem dX11_goingTakes_37 : decode cX11_goingTakes 37 = .ok (.getfield 69, 3) := by decide +kernel
theorem dX11_goingTakes_40 : decode cX11_goingTakes 40 = .ok (.iconst 2, 1) := by decide +kernel
theorem dX11_goingTakes_41 : decode cX11_goingTakes 41 = .ok (.iload_n 3, 1) := by decide +kernel
theorem dX11_goingTakes_42 : decode cX11_goingTakes 42 = .ok (.iastore, 1) := by decide +kernel
theorem dX11_goingTakes_43 : decode cX11_goingTakes 43 = .ok (.aload_n 0, 1) := by decide +kernel
theorem dX11_goingTakes_44 : decode cX11_goingTakes 44 = .ok (.getfield 69, 3) := by decide +kernel
theorem dX11_goingTakes_47 : decode cX11_goingTakes 47 = .ok (.iconst 3, 1) := by decide +kernel
theorem dX11_goingTakes_48 : decode cX11_goingTakes 48 = .ok (.iload 4, 2) := by decide +kernel
theorem dX11_goingTakes_50 : decode cX11_goingTakes 50 = .ok (.iastore, 1) := by decide +kernel
theorem dX11_goingTakes_51 : decode cX11_goingTakes 51 = .ok (.aload_n 0, 1) := by decide +kernel
theorem dX11_goingTakes_52 : decode cX11_goingTakes 52 = .ok (.getfield 69, 3) := by decide +kernel
theorem dX11_goingTakes_55 : decode cX11_goingTakes 55 = .ok (.iconst 4, 1) := by decide +kernel
theorem dX11_goingTakes_56 : decode cX11_goingTakes 56 = .ok (.iload 5, 2) := by decide +kernel
theorem dX11_goingTakes_58 : decode cX11_goingTakes 58 = .ok (.iastore, 1) := by decide +kernel
theorem dX11_goingTakes_59 : decode cX11_goingTakes 59 = .ok (.aload_n 0, 1) := by decide +kernel
theorem dX11_goingTakes_60 : decode cX11_goingTakes 60 = .ok (.iconst 0, 1) := by decide +kernel
theorem dX11_goingTakes_61 : decode cX11_goingTakes 61 = .ok (.invokevirtual 234, 3) := by decide +kernel
theorem dX11_goingTakes_64 : decode cX11_goingTakes 64 = .ok (.istore 6, 2) := by decide +kernel
theorem dX11_goingTakes_66 : decode cX11_goingTakes 66 = .ok (.iload 6, 2) := by decide +kernel
theorem dX11_goingTakes_68 : decode cX11_goingTakes 68 = .ok (.iconst 1, 1) := by decide +kernel
theorem dX11_goingTakes_69 : decode cX11_goingTakes 69 = .ok (.if_icmp .ge 7, 3) := by decide +kernel
theorem dX11_goingTakes_72 : decode cX11_goingTakes 72 = .ok (.iconst 1, 1) := by decide +kernel
theorem dX11_goingTakes_73 : decode cX11_goingTakes 73 = .ok (.goto 17, 3) := by decide +kernel
theorem dX11_goingTakes_76 : decode cX11_goingTakes 76 = .ok (.iload 6, 2) := by decide +kernel
theorem dX11_goingTakes_78 : decode cX11_goingTakes 78 = .ok (.bipush 60, 2) := by decide +kernel
theorem dX11_goingTakes_80 : decode cX11_goingTakes 80 = .ok (.if_icmp .le 8, 3) := by decide +kernel
theorem dX11_goingTakes_83 : decode cX11_goingTakes 83 = .ok (.bipush 60, 2) := by decide +kernel
theorem dX11_goingTakes_85 : decode cX11_goingTakes 85 = .ok (.goto 5, 3) := by decide +kernel
theorem dX11_goingTakes_88 : decode cX11_goingTakes 88 = .ok (.iload 6, 2) := by decide +kernel
theorem dX11_goingTakes_90 : decode cX11_goingTakes 90 = .ok (.ireturn, 1) := by decide +kernel
theorem dX11_begin_0 : decode cX11_begin 0 = .ok (.aload_n 0, 1) := by decide +kernel
theorem dX11_begin_1 : decode cX11_begin 1 = .ok (.iload_n 1, 1) := by decide +kernel
theorem dX11_begin_2 : decode cX11_begin 2 = .ok (.putfield 237, 3) := by decide +kernel
theorem dX11_begin_5 : decode cX11_begin 5 = .ok (.aload_n 0, 1) := by decide +kernel
theorem dX11_begin_6 : decode cX11_begin 6 = .ok (.iconst 0, 1) := by decide +kernel
theorem dX11_begin_7 : decode cX11_begin 7 = .ok (.putfield 240, 3) := by decide +kernel
theorem dX11_begin_10 : decode cX11_begin 10 = .ok (.aload_n 0, 1) := by decide +kernel
theorem dX11_begin_11 : decode cX11_begin 11 = .ok (.iconst 0, 1) := by decide +kernel
theorem dX11_begin_12 : decode cX11_begin 12 = .ok (.putfield 243, 3) := by decide +kernel
theorem dX11_begin_15 : decode cX11_begin 15 = .ok (.aload_n 0, 1) := by decide +kernel
theorem dX11_begin_16 : decode cX11_begin 16 = .ok (.iconst 0, 1) := by decide +kernel
theorem dX11_begin_17 : decode cX11_begin 17 = .ok (.putfield 246, 3) := by decide +kernel
theorem dX11_begin_20 : decode cX11_begin 20 = .ok (.aload_n 0, 1) := by decide +kernel
theorem dX11_begin_21 : decode cX11_begin 21 = .ok (.iconst 0, 1) := by decide +kernel
theorem dX11_begin_22 : decode cX11_begin 22 = .ok (.putfield 249, 3) := by decide +kernel
theorem dX11_begin_25 : decode cX11_begin 25 = .ok (.aload_n 0, 1) := by decide +kernel
theorem dX11_begin_26 : decode cX11_begin 26 = .ok (.iconst 0, 1) := by decide +kernel
theorem dX11_begin_27 : decode cX11_begin 27 = .ok (.putfield 252, 3) := by decide +kernel
theorem dX11_begin_30 : decode cX11_begin 30 = .ok (.aload_n 0, 1) := by decide +kernel
theorem dX11_begin_31 : decode cX11_begin 31 = .ok (.iconst 0, 1) := by decide +kernel
theorem dX11_begin_32 : decode cX11_begin 32 = .ok (.putfield 255, 3) := by decide +kernel
theorem dX11_begin_35 : decode cX11_begin 35 = .ok (.return_, 1) := by decide +kernel
theorem dX11_allThings_0 : decode cX11_allThings 0 = .ok (.iconst 1, 1) := by decide +kernel
theorem dX11_allThings_1 : decode cX11_allThings 1 = .ok (.aload_n 0, 1) := by decide +kernel
theorem dX11_allThings_2 : decode cX11_allThings 2 = .ok (.getfield 115, 3) := by decide +kernel
theorem dX11_allThings_5 : decode cX11_allThings 5 = .ok (.ishl, 1) := by decide +kernel
theorem dX11_allThings_6 : decode cX11_allThings 6 = .ok (.iconst 1, 1) := by decide +kernel
theorem dX11_allThings_7 : decode cX11_allThings 7 = .ok (.isub, 1) := by decide +kernel
theorem dX11_allThings_8 : decode cX11_allThings 8 = .ok (.ireturn, 1) := by decide +kernel
theorem dX11_comesAt_0 : decode cX11_comesAt 0 = .ok (.iconst 0, 1) := by decide +kernel
theorem dX11_comesAt_1 : decode cX11_comesAt 1 = .ok (.istore_n 2, 1) := by decide +kernel
theorem dX11_comesAt_2 : decode cX11_comesAt 2 = .ok (.iconst 0, 1) := by decide +kernel
theorem dX11_comesAt_3 : decode cX11_comesAt 3 = .ok (.istore_n 3, 1) := by decide +kernel
theorem dX11_comesAt_4 : decode cX11_comesAt 4 = .ok (.iload_n 3, 1) := by decide +kernel
theorem dX11_comesAt_5 : decode cX11_comesAt 5 = .ok (.aload_n 0, 1) := by decide +kernel
theorem dX11_comesAt_6 : decode cX11_comesAt 6 = .ok (.getfield 115, 3) := by decide +kernel
theorem dX11_comesAt_9 : decode cX11_comesAt 9 = .ok (.if_icmp .ge 25, 3) := by decide +kernel
theorem dX11_comesAt_12 : decode cX11_comesAt 12 = .ok (.aload_n 0, 1) := by decide +kernel
theorem dX11_comesAt_13 : decode cX11_comesAt 13 = .ok (.getfield 18, 3) := by decide +kernel
theorem dX11_comesAt_16 : decode cX11_comesAt 16 = .ok (.iload_n 3, 1) := by decide +kernel
theorem dX11_comesAt_17 : decode cX11_comesAt 17 = .ok (.iaload, 1) := by decide +kernel
theorem dX11_comesAt_18 : decode cX11_comesAt 18 = .ok (.iload_n 1, 1) := by decide +kernel
theorem dX11_comesAt_19 : decode cX11_comesAt 19 = .ok (.if_icmp .ne 9, 3) := by decide +kernel
theorem dX11_comesAt_22 : decode cX11_comesAt 22 = .ok (.iload_n 2, 1) := by decide +kernel
theorem dX11_comesAt_23 : decode cX11_comesAt 23 = .ok (.iconst 1, 1) := by decide +kernel
theorem dX11_comesAt_24 : decode cX11_comesAt 24 = .ok (.iload_n 3, 1) := by decide +kernel
theorem dX11_comesAt_25 : decode cX11_comesAt 25 = .ok (.ishl, 1) := by decide +kernel
theorem dX11_comesAt_26 : decode cX11_comesAt 26 = .ok (.ior, 1) := by decide +kernel
theorem dX11_comesAt_27 : decode cX11_comesAt 27 = .ok (.istore_n 2, 1) := by decide +kernel
theorem dX11_comesAt_28 : decode cX11_comesAt 28 = .ok (.iinc 3 1, 3) := by decide +kernel
theorem dX11_comesAt_31 : decode cX11_comesAt 31 = .ok (.goto (-27), 3) := by decide +kernel
theorem dX11_comesAt_34 : decode cX11_comesAt 34 = .ok (.iload_n 2, 1) := by decide +kernel
theorem dX11_comesAt_35 : decode cX11_comesAt 35 = .ok (.aload_n 0, 1) := by decide +kernel
theorem dX11_comesAt_36 : decode cX11_comesAt 36 = .ok (.getfield 237, 3) := by decide +kernel
theorem dX11_comesAt_39 : decode cX11_comesAt 39 = .ok (.iand, 1) := by decide +kernel
theorem dX11_comesAt_40 : decode cX11_comesAt 40 = .ok (.aload_n 0, 1) := by decide +kernel
theorem dX11_comesAt_41 : decode cX11_comesAt 41 = .ok (.getfield 240, 3) := by decide +kernel
theorem dX11_comesAt_44 : decode cX11_comesAt 44 = .ok (.iconst (-1), 1) := by decide +kernel
theorem dX11_comesAt_45 : decode cX11_comesAt 45 = .ok (.ixor, 1) := by decide +kernel
theorem dX11_comesAt_46 : decode cX11_comesAt 46 = .ok (.iand, 1) := by decide +kernel
theorem dX11_comesAt_47 : decode cX11_comesAt 47 = .ok (.aload_n 0, 1) := by decide +kernel
theorem dX11_comesAt_48 : decode cX11_comesAt 48 = .ok (.getfield 243, 3) := by decide +kernel
theorem dX11_comesAt_51 : decode cX11_comesAt 51 = .ok (.iconst (-1), 1) := by decide +kernel
theorem dX11_comesAt_52 : decode cX11_comesAt 52 = .ok (.ixor, 1) := by decide +kernel
theorem dX11_comesAt_53 : decode cX11_comesAt 53 = .ok (.iand, 1) := by decide +kernel
theorem dX11_comesAt_54 : decode cX11_comesAt 54 = .ok (.ireturn, 1) := by decide +kernel
theorem dX11_worthOf_0 : decode cX11_worthOf 0 = .ok (.iconst 0, 1) := by decide +kernel
theorem dX11_worthOf_1 : decode cX11_worthOf 1 = .ok (.istore_n 2, 1) := by decide +kernel
theorem dX11_worthOf_2 : decode cX11_worthOf 2 = .ok (.iconst 0, 1) := by decide +kernel
theorem dX11_worthOf_3 : decode cX11_worthOf 3 = .ok (.istore_n 3, 1) := by decide +kernel
theorem dX11_worthOf_4 : decode cX11_worthOf 4 = .ok (.iload_n 3, 1) := by decide +kernel
theorem dX11_worthOf_5 : decode cX11_worthOf 5 = .ok (.aload_n 0, 1) := by decide +kernel
theorem dX11_worthOf_6 : decode cX11_worthOf 6 = .ok (.getfield 115, 3) := by decide +kernel
theorem dX11_worthOf_9 : decode cX11_worthOf 9 = .ok (.if_icmp .ge 27, 3) := by decide +kernel
theorem dX11_worthOf_12 : decode cX11_worthOf 12 = .ok (.iload_n 1, 1) := by decide +kernel
theorem dX11_worthOf_13 : decode cX11_worthOf 13 = .ok (.iload_n 3, 1) := by decide +kernel
theorem dX11_worthOf_14 : decode cX11_worthOf 14 = .ok (.ishr, 1) := by decide +kernel
theorem dX11_worthOf_15 : decode cX11_worthOf 15 = .ok (.iconst 1, 1) := by decide +kernel
theorem dX11_worthOf_16 : decode cX11_worthOf 16 = .ok (.iand, 1) := by decide +kernel
theorem dX11_worthOf_17 : decode cX11_worthOf 17 = .ok (.iconst 1, 1) := by decide +kernel
theorem dX11_worthOf_18 : decode cX11_worthOf 18 = .ok (.if_icmp .ne 12, 3) := by decide +kernel
theorem dX11_worthOf_21 : decode cX11_worthOf 21 = .ok (.iload_n 2, 1) := by decide +kernel
theorem dX11_worthOf_22 : decode cX11_worthOf 22 = .ok (.aload_n 0, 1) := by decide +kernel
theorem dX11_worthOf_23 : decode cX11_worthOf 23 = .ok (.getfield 21, 3) := by decide +kernel
theorem dX11_worthOf_26 : decode cX11_worthOf 26 = .ok (.iload_n 3, 1) := by decide +kernel
theorem dX11_worthOf_27 : decode cX11_worthOf 27 = .ok (.iaload, 1) := by decide +kernel
theorem dX11_worthOf_28 : decode cX11_worthOf 28 = .ok (.iadd, 1) := by decide +kernel
theorem dX11_worthOf_29 : decode cX11_worthOf 29 = .ok (.istore_n 2, 1) := by decide +kernel
theorem dX11_worthOf_30 : decode cX11_worthOf 30 = .ok (.iinc 3 1, 3) := by decide +kernel
theorem dX11_worthOf_33 : decode cX11_worthOf 33 = .ok (.goto (-29), 3) := by decide +kernel
theorem dX11_worthOf_36 : decode cX11_worthOf 36 = .ok (.iload_n 2, 1) := by decide +kernel
theorem dX11_worthOf_37 : decode cX11_worthOf 37 = .ok (.ireturn, 1) := by decide +kernel
theorem dX11_toHouse_0 : decode cX11_toHouse 0 = .ok (.iconst 0, 1) := by decide +kernel
theorem dX11_toHouse_1 : decode cX11_toHouse 1 = .ok (.istore_n 2, 1) := by decide +kernel
theorem dX11_toHouse_2 : decode cX11_toHouse 2 = .ok (.iconst 0, 1) := by decide +kernel
theorem dX11_toHouse_3 : decode cX11_toHouse 3 = .ok (.istore_n 3, 1) := by decide +kernel
theorem dX11_toHouse_4 : decode cX11_toHouse 4 = .ok (.iload_n 3, 1) := by decide +kernel
theorem dX11_toHouse_5 : decode cX11_toHouse 5 = .ok (.iload_n 1, 1) := by decide +kernel
theorem dX11_toHouse_6 : decode cX11_toHouse 6 = .ok (.if_icmp .ge 18, 3) := by decide +kernel
theorem dX11_toHouse_9 : decode cX11_toHouse 9 = .ok (.iload_n 2, 1) := by decide +kernel
theorem dX11_toHouse_10 : decode cX11_toHouse 10 = .ok (.aload_n 0, 1) := by decide +kernel
theorem dX11_toHouse_11 : decode cX11_toHouse 11 = .ok (.getfield 30, 3) := by decide +kernel
theorem dX11_toHouse_14 : decode cX11_toHouse 14 = .ok (.iload_n 3, 1) := by decide +kernel
theorem dX11_toHouse_15 : decode cX11_toHouse 15 = .ok (.iaload, 1) := by decide +kernel
theorem dX11_toHouse_16 : decode cX11_toHouse 16 = .ok (.iadd, 1) := by decide +kernel
theorem dX11_toHouse_17 : decode cX11_toHouse 17 = .ok (.istore_n 2, 1) := by decide +kernel
theorem dX11_toHouse_18 : decode cX11_toHouse 18 = .ok (.iinc 3 1, 3) := by decide +kernel
theorem dX11_toHouse_21 : decode cX11_toHouse 21 = .ok (.goto (-17), 3) := by decide +kernel
theorem dX11_toHouse_24 : decode cX11_toHouse 24 = .ok (.iload_n 2, 1) := by decide +kernel
theorem dX11_toHouse_25 : decode cX11_toHouse 25 = .ok (.ireturn, 1) := by decide +kernel
theorem dX11_goFor_0 : decode cX11_goFor 0 = .ok (.iload_n 1, 1) := by decide +kernel
theorem dX11_goFor_1 : decode cX11_goFor 1 = .ok (.istore_n 3, 1) := by decide +kernel
theorem dX11_goFor_2 : decode cX11_goFor 2 = .ok (.iload_n 3, 1) := by decide +kernel
theorem dX11_goFor_3 : decode cX11_goFor 3 = .ok (.ifCond .eq 156, 3) := by decide +kernel
theorem dX11_goFor_6 : decode cX11_goFor 6 = .ok (.iconst 0, 1) := by decide +kernel
theorem dX11_goFor_7 : decode cX11_goFor 7 = .ok (.istore 4, 2) := by decide +kernel
theorem dX11_goFor_9 : decode cX11_goFor 9 = .ok (.iload_n 3, 1) := by decide +kernel
theorem dX11_goFor_10 : decode cX11_goFor 10 = .ok (.iload 4, 2) := by decide +kernel
theorem dX11_goFor_12 : decode cX11_goFor 12 = .ok (.ishr, 1) := by decide +kernel
theorem dX11_goFor_13 : decode cX11_goFor 13 = .ok (.iconst 1, 1) := by decide +kernel
theorem dX11_goFor_14 : decode cX11_goFor 14 = .ok (.iand, 1) := by decide +kernel
theorem dX11_goFor_15 : decode cX11_goFor 15 = .ok (.ifCond .ne 9, 3) := by decide +kernel
theorem dX11_goFor_18 : decode cX11_goFor 18 = .ok (.iinc 4 1, 3) := by decide +kernel
theorem dX11_goFor_21 : decode cX11_goFor 21 = .ok (.goto (-12), 3) := by decide +kernel
theorem dX11_goFor_24 : decode cX11_goFor 24 = .ok (.aload_n 0, 1) := by decide +kernel
theorem dX11_goFor_25 : decode cX11_goFor 25 = .ok (.iconst 1, 1) := by decide +kernel
theorem dX11_goFor_26 : decode cX11_goFor 26 = .ok (.aload_n 0, 1) := by decide +kernel
theorem dX11_goFor_27 : decode cX11_goFor 27 = .ok (.getfield 9, 3) := by decide +kernel
theorem dX11_goFor_30 : decode cX11_goFor 30 = .ok (.iload 4, 2) := by decide +kernel
theorem dX11_goFor_32 : decode cX11_goFor 32 = .ok (.iaload, 1) := by decide +kernel
theorem dX11_goFor_33 : decode cX11_goFor 33 = .ok (.aload_n 0, 1) := by decide +kernel
theorem dX11_goFor_34 : decode cX11_goFor 34 = .ok (.getfield 249, 3) := by decide +kernel
theorem dX11_goFor_37 : decode cX11_goFor 37 = .ok (.aload_n 0, 1) := by decide +kernel
theorem dX11_goFor_38 : decode cX11_goFor 38 = .ok (.getfield 21, 3) := by decide +kernel
theorem dX11_goFor_41 : decode cX11_goFor 41 = .ok (.iload 4, 2) := by decide +kernel
theorem dX11_goFor_43 : decode cX11_goFor 43 = .ok (.iaload, 1) := by decide +kernel
theorem dX11_goFor_44 : decode cX11_goFor 44 = .ok (.iload_n 2, 1) := by decide +kernel
theorem dX11_goFor_45 : decode cX11_goFor 45 = .ok (.invokevirtual 258, 3) := by decide +kernel
theorem dX11_goFor_48 : decode cX11_goFor 48 = .ok (.istore 5, 2) := by decide +kernel
theorem dX11_goFor_50 : decode cX11_goFor 50 = .ok (.aload_n 0, 1) := by decide +kernel
theorem dX11_goFor_51 : decode cX11_goFor 51 = .ok (.getfield 75, 3) := by decide +kernel
theorem dX11_goFor_54 : decode cX11_goFor 54 = .ok (.aload_n 0, 1) := by decide +kernel
theorem dX11_goFor_55 : decode cX11_goFor 55 = .ok (.getfield 249, 3) := by decide +kernel
theorem dX11_goFor_58 : decode cX11_goFor 58 = .ok (.aload_n 0, 1) := by decide +kernel
theorem dX11_goFor_59 : decode cX11_goFor 59 = .ok (.getfield 9, 3) := by decide +kernel
theorem dX11_goFor_62 : decode cX11_goFor 62 = .ok (.iload 4, 2) := by decide +kernel
theorem dX11_goFor_64 : decode cX11_goFor 64 = .ok (.iaload, 1) := by decide +kernel
theorem dX11_goFor_65 : decode cX11_goFor 65 = .ok (.iastore, 1) := by decide +kernel
theorem dX11_goFor_66 : decode cX11_goFor 66 = .ok (.aload_n 0, 1) := by decide +kernel
theorem dX11_goFor_67 : decode cX11_goFor 67 = .ok (.getfield 78, 3) := by decide +kernel
theorem dX11_goFor_70 : decode cX11_goFor 70 = .ok (.aload_n 0, 1) := by decide +kernel
theorem dX11_goFor_71 : decode cX11_goFor 71 = .ok (.getfield 249, 3) := by decide +kernel
theorem dX11_goFor_74 : decode cX11_goFor 74 = .ok (.iload 4, 2) := by decide +kernel
theorem dX11_goFor_76 : decode cX11_goFor 76 = .ok (.iastore, 1) := by decide +kernel
theorem dX11_goFor_77 : decode cX11_goFor 77 = .ok (.aload_n 0, 1) := by decide +kernel
theorem dX11_goFor_78 : decode cX11_goFor 78 = .ok (.getfield 81, 3) := by decide +kernel
theorem dX11_goFor_81 : decode cX11_goFor 81 = .ok (.aload_n 0, 1) := by decide +kernel
theorem dX11_goFor_82 : decode cX11_goFor 82 = .ok (.getfield 249, 3) := by decide +kernel
theorem dX11_goFor_85 : decode cX11_goFor 85 = .ok (.iload 5, 2) := by decide +kernel
theorem dX11_goFor_87 : decode cX11_goFor 87 = .ok (.iastore, 1) := by decide +kernel
theorem dX11_goFor_88 : decode cX11_goFor 88 = .ok (.aload_n 0, 1) := by decide +kernel
theorem dX11_goFor_89 : decode cX11_goFor 89 = .ok (.dup, 1) := by decide +kernel
theorem dX11_goFor_90 : decode cX11_goFor 90 = .ok (.getfield 249, 3) := by decide +kernel
theorem dX11_goFor_93 : decode cX11_goFor 93 = .ok (.iconst 1, 1) := by decide +kernel
theorem dX11_goFor_94 : decode cX11_goFor 94 = .ok (.iadd, 1) := by decide +kernel
theorem dX11_goFor_95 : decode cX11_goFor 95 = .ok (.putfield 249, 3) := by decide +kernel
theorem dX11_goFor_98 : decode cX11_goFor 98 = .ok (.aload_n 0, 1) := by decide +kernel
theorem dX11_goFor_99 : decode cX11_goFor 99 = .ok (.dup, 1) := by decide +kernel
theorem dX11_goFor_100 : decode cX11_goFor 100 = .ok (.getfield 246, 3) := by decide +kernel
theorem dX11_goFor_103 : decode cX11_goFor 103 = .ok (.iload 5, 2) := by decide +kernel
theorem dX11_goFor_105 : decode cX11_goFor 105 = .ok (.iadd, 1) := by decide +kernel
theorem dX11_goFor_106 : decode cX11_goFor 106 = .ok (.putfield 246, 3) := by decide +kernel
theorem dX11_goFor_109 : decode cX11_goFor 109 = .ok (.aload_n 0, 1) := by decide +kernel
theorem dX11_goFor_110 : decode cX11_goFor 110 = .ok (.dup, 1) := by decide +kernel
theorem dX11_goFor_111 : decode cX11_goFor 111 = .ok (.getfield 240, 3) := by decide +kernel
theorem dX11_goFor_114 : decode cX11_goFor 114 = .ok (.iconst 1, 1) := by decide +kernel
theorem dX11_goFor_115 : decode cX11_goFor 115 = .ok (.iload 4, 2) := by decide +kernel
theorem dX11_goFor_117 : decode cX11_goFor 117 = .ok (.ishl, 1) := by decide +kernel
theorem dX11_goFor_118 : decode cX11_goFor 118 = .ok (.ior, 1) := by decide +kernel
theorem dX11_goFor_119 : decode cX11_goFor 119 = .ok (.putfield 240, 3) := by decide +kernel
theorem dX11_goFor_122 : decode cX11_goFor 122 = .ok (.iload_n 3, 1) := by decide +kernel
theorem dX11_goFor_123 : decode cX11_goFor 123 = .ok (.aload_n 0, 1) := by decide +kernel
theorem dX11_goFor_124 : decode cX11_goFor 124 = .ok (.getfield 24, 3) := by decide +kernel
theorem dX11_goFor_127 : decode cX11_goFor 127 = .ok (.iload 4, 2) := by decide +kernel
theorem dX11_goFor_129 : decode cX11_goFor 129 = .ok (.iaload, 1) := by decide +kernel
theorem dX11_goFor_130 : decode cX11_goFor 130 = .ok (.aload_n 0, 1) := by decide +kernel
theorem dX11_goFor_131 : decode cX11_goFor 131 = .ok (.getfield 237, 3) := by decide +kernel
theorem dX11_goFor_134 : decode cX11_goFor 134 = .ok (.iand, 1) := by decide +kernel
theorem dX11_goFor_135 : decode cX11_goFor 135 = .ok (.aload_n 0, 1) := by decide +kernel
theorem dX11_goFor_136 : decode cX11_goFor 136 = .ok (.invokevirtual 262, 3) := by decide +kernel
theorem dX11_goFor_139 : decode cX11_goFor 139 = .ok (.iand, 1) := by decide +kernel
theorem dX11_goFor_140 : decode cX11_goFor 140 = .ok (.ior, 1) := by decide +kernel
theorem dX11_goFor_141 : decode cX11_goFor 141 = .ok (.aload_n 0, 1) := by decide +kernel
theorem dX11_goFor_142 : decode cX11_goFor 142 = .ok (.getfield 240, 3) := by decide +kernel
theorem dX11_goFor_145 : decode cX11_goFor 145 = .ok (.iconst (-1), 1) := by decide +kernel
theorem dX11_goFor_146 : decode cX11_goFor 146 = .ok (.ixor, 1) := by decide +kernel
theorem dX11_goFor_147 : decode cX11_goFor 147 = .ok (.iand, 1) := by decide +kernel
theorem dX11_goFor_148 : decode cX11_goFor 148 = .ok (.aload_n 0, 1) := by decide +kernel
theorem dX11_goFor_149 : decode cX11_goFor 149 = .ok (.getfield 243, 3) := by decide +kernel
theorem dX11_goFor_152 : decode cX11_goFor 152 = .ok (.iconst (-1), 1) := by decide +kernel
theorem dX11_goFor_153 : decode cX11_goFor 153 = .ok (.ixor, 1) := by decide +kernel
theorem dX11_goFor_154 : decode cX11_goFor 154 = .ok (.iand, 1) := by decide +kernel
theorem dX11_goFor_155 : decode cX11_goFor 155 = .ok (.istore_n 3, 1) := by decide +kernel
theorem dX11_goFor_156 : decode cX11_goFor 156 = .ok (.goto (-154), 3) := by decide +kernel
theorem dX11_goFor_159 : decode cX11_goFor 159 = .ok (.return_, 1) := by decide +kernel
theorem dX11_stopAt_0 : decode cX11_stopAt 0 = .ok (.aload_n 0, 1) := by decide +kernel
theorem dX11_stopAt_1 : decode cX11_stopAt 1 = .ok (.iload_n 1, 1) := by decide +kernel
theorem dX11_stopAt_2 : decode cX11_stopAt 2 = .ok (.invokevirtual 265, 3) := by decide +kernel
theorem dX11_stopAt_5 : decode cX11_stopAt 5 = .ok (.istore_n 2, 1) := by decide +kernel
theorem dX11_stopAt_6 : decode cX11_stopAt 6 = .ok (.iload_n 2, 1) := by decide +kernel
theorem dX11_stopAt_7 : decode cX11_stopAt 7 = .ok (.ifCond .ne 4, 3) := by decide +kernel
theorem dX11_stopAt_10 : decode cX11_stopAt 10 = .ok (.return_, 1) := by decide +kernel
theorem dX11_stopAt_11 : decode cX11_stopAt 11 = .ok (.iload_n 1, 1) := by decide +kernel
theorem dX11_stopAt_12 : decode cX11_stopAt 12 = .ok (.ifCond .ne 10, 3) := by decide +kernel
theorem dX11_stopAt_15 : decode cX11_stopAt 15 = .ok (.aload_n 0, 1) := by decide +kernel
theorem dX11_stopAt_16 : decode cX11_stopAt 16 = .ok (.iload_n 2, 1) := by decide +kernel
theorem dX11_stopAt_17 : decode cX11_stopAt 17 = .ok (.iconst 0, 1) := by decide +kernel
theorem dX11_stopAt_18 : decode cX11_stopAt 18 = .ok (.invokevirtual 268, 3) := by decide +kernel
theorem dX11_stopAt_21 : decode cX11_stopAt 21 = .ok (.return_, 1) := by decide +kernel
theorem dX11_stopAt_22 : decode cX11_stopAt 22 = .ok (.aload_n 0, 1) := by decide +kernel
theorem dX11_stopAt_23 : decode cX11_stopAt 23 = .ok (.iload_n 2, 1) := by decide +kernel
theorem dX11_stopAt_24 : decode cX11_stopAt 24 = .ok (.invokevirtual 271, 3) := by decide +kernel
theorem dX11_stopAt_27 : decode cX11_stopAt 27 = .ok (.aload_n 0, 1) := by decide +kernel
theorem dX11_stopAt_28 : decode cX11_stopAt 28 = .ok (.getfield 33, 3) := by decide +kernel
theorem dX11_stopAt_31 : decode cX11_stopAt 31 = .ok (.iconst 2, 1) := by decide +kernel
theorem dX11_stopAt_32 : decode cX11_stopAt 32 = .ok (.imul, 1) := by decide +kernel
theorem dX11_stopAt_33 : decode cX11_stopAt 33 = .ok (.aload_n 0, 1) := by decide +kernel
theorem dX11_stopAt_34 : decode cX11_stopAt 34 = .ok (.iload_n 1, 1) := by decide +kernel
theorem dX11_stopAt_35 : decode cX11_stopAt 35 = .ok (.invokevirtual 274, 3) := by decide +kernel
theorem dX11_stopAt_38 : decode cX11_stopAt 38 = .ok (.imul, 1) := by decide +kernel
theorem dX11_stopAt_39 : decode cX11_stopAt 39 = .ok (.if_icmp .gt 14, 3) := by decide +kernel
theorem dX11_stopAt_42 : decode cX11_stopAt 42 = .ok (.aload_n 0, 1) := by decide +kernel
theorem dX11_stopAt_43 : decode cX11_stopAt 43 = .ok (.dup, 1) := by decide +kernel
theorem dX11_stopAt_44 : decode cX11_stopAt 44 = .ok (.getfield 243, 3) := by decide +kernel
theorem dX11_stopAt_47 : decode cX11_stopAt 47 = .ok (.iload_n 2, 1) := by decide +kernel
theorem dX11_stopAt_48 : decode cX11_stopAt 48 = .ok (.ior, 1) := by decide +kernel
theorem dX11_stopAt_49 : decode cX11_stopAt 49 = .ok (.putfield 243, 3) := by decide +kernel
theorem dX11_stopAt_52 : decode cX11_stopAt 52 = .ok (.return_, 1) := by decide +kernel
theorem dX11_stopAt_53 : decode cX11_stopAt 53 = .ok (.aload_n 0, 1) := by decide +kernel
theorem dX11_stopAt_54 : decode cX11_stopAt 54 = .ok (.dup, 1) := by decide +kernel
theorem dX11_stopAt_55 : decode cX11_stopAt 55 = .ok (.getfield 252, 3) := by decide +kernel
theorem dX11_stopAt_58 : decode cX11_stopAt 58 = .ok (.iconst 1, 1) := by decide +kernel
theorem dX11_stopAt_59 : decode cX11_stopAt 59 = .ok (.iadd, 1) := by decide +kernel
theorem dX11_stopAt_60 : decode cX11_stopAt 60 = .ok (.putfield 252, 3) := by decide +kernel
theorem dX11_stopAt_63 : decode cX11_stopAt 63 = .ok (.aload_n 0, 1) := by decide +kernel
theorem dX11_stopAt_64 : decode cX11_stopAt 64 = .ok (.iload_n 1, 1) := by decide +kernel
theorem dX11_stopAt_65 : decode cX11_stopAt 65 = .ok (.putfield 255, 3) := by decide +kernel
theorem dX11_stopAt_68 : decode cX11_stopAt 68 = .ok (.aload_n 0, 1) := by decide +kernel
