theorem dX0_init_0 : decode cX0_init 0 = .ok (.aload_n 0, 1) := by decide +kernel
theorem dX0_init_1 : decode cX0_init 1 = .ok (.invokespecial 3, 3) := by decide +kernel
theorem dX0_init_4 : decode cX0_init 4 = .ok (.aload_n 0, 1) := by decide +kernel
theorem dX0_init_5 : decode cX0_init 5 = .ok (.bipush 50, 2) := by decide +kernel
theorem dX0_init_7 : decode cX0_init 7 = .ok (.newarray .int, 2) := by decide +kernel
theorem dX0_init_9 : decode cX0_init 9 = .ok (.putfield 11, 3) := by decide +kernel
theorem dX0_init_12 : decode cX0_init 12 = .ok (.aload_n 0, 1) := by decide +kernel
theorem dX0_init_13 : decode cX0_init 13 = .ok (.bipush 24, 2) := by decide +kernel
theorem dX0_init_15 : decode cX0_init 15 = .ok (.newarray .int, 2) := by decide +kernel
theorem dX0_init_17 : decode cX0_init 17 = .ok (.putfield 15, 3) := by decide +kernel
theorem dX0_init_20 : decode cX0_init 20 = .ok (.return_, 1) := by decide +kernel
theorem dX0_add_0 : decode cX0_add 0 = .ok (.aload_n 0, 1) := by decide +kernel
theorem dX0_add_1 : decode cX0_add 1 = .ok (.getfield 18, 3) := by decide +kernel
theorem dX0_add_4 : decode cX0_add 4 = .ok (.ifCond .lt 12, 3) := by decide +kernel
theorem dX0_add_7 : decode cX0_add 7 = .ok (.aload_n 0, 1) := by decide +kernel
theorem dX0_add_8 : decode cX0_add 8 = .ok (.getfield 18, 3) := by decide +kernel
theorem dX0_add_11 : decode cX0_add 11 = .ok (.bipush 50, 2) := by decide +kernel
theorem dX0_add_13 : decode cX0_add 13 = .ok (.if_icmp .lt 6, 3) := by decide +kernel
theorem dX0_add_16 : decode cX0_add 16 = .ok (.bipush (-3), 2) := by decide +kernel
theorem dX0_add_18 : decode cX0_add 18 = .ok (.ireturn, 1) := by decide +kernel
theorem dX0_add_19 : decode cX0_add 19 = .ok (.aload_n 0, 1) := by decide +kernel
theorem dX0_add_20 : decode cX0_add 20 = .ok (.getfield 11, 3) := by decide +kernel
theorem dX0_add_23 : decode cX0_add 23 = .ok (.aload_n 0, 1) := by decide +kernel
theorem dX0_add_24 : decode cX0_add 24 = .ok (.getfield 18, 3) := by decide +kernel
theorem dX0_add_27 : decode cX0_add 27 = .ok (.iload_n 1, 1) := by decide +kernel
theorem dX0_add_28 : decode cX0_add 28 = .ok (.iastore, 1) := by decide +kernel
theorem dX0_add_29 : decode cX0_add 29 = .ok (.aload_n 0, 1) := by decide +kernel
theorem dX0_add_30 : decode cX0_add 30 = .ok (.dup, 1) := by decide +kernel
theorem dX0_add_31 : decode cX0_add 31 = .ok (.getfield 18, 3) := by decide +kernel
theorem dX0_add_34 : decode cX0_add 34 = .ok (.iconst 1, 1) := by decide +kernel
theorem dX0_add_35 : decode cX0_add 35 = .ok (.iadd, 1) := by decide +kernel
theorem dX0_add_36 : decode cX0_add 36 = .ok (.putfield 18, 3) := by decide +kernel
theorem dX0_add_39 : decode cX0_add 39 = .ok (.aload_n 0, 1) := by decide +kernel
theorem dX0_add_40 : decode cX0_add 40 = .ok (.getfield 18, 3) := by decide +kernel
theorem dX0_add_43 : decode cX0_add 43 = .ok (.iconst 1, 1) := by decide +kernel
theorem dX0_add_44 : decode cX0_add 44 = .ok (.isub, 1) := by decide +kernel
theorem dX0_add_45 : decode cX0_add 45 = .ok (.ireturn, 1) := by decide +kernel
theorem dX0_has_0 : decode cX0_has 0 = .ok (.iload_n 1, 1) := by decide +kernel
theorem dX0_has_1 : decode cX0_has 1 = .ok (.ifCond .lt 21, 3) := by decide +kernel
theorem dX0_has_4 : decode cX0_has 4 = .ok (.iload_n 1, 1) := by decide +kernel
theorem dX0_has_5 : decode cX0_has 5 = .ok (.aload_n 0, 1) := by decide +kernel
theorem dX0_has_6 : decode cX0_has 6 = .ok (.getfield 18, 3) := by decide +kernel
theorem dX0_has_9 : decode cX0_has 9 = .ok (.if_icmp .ge 13, 3) := by decide +kernel
theorem dX0_has_12 : decode cX0_has 12 = .ok (.iload_n 1, 1) := by decide +kernel
theorem dX0_has_13 : decode cX0_has 13 = .ok (.bipush 50, 2) := by decide +kernel
theorem dX0_has_15 : decode cX0_has 15 = .ok (.if_icmp .ge 7, 3) := by decide +kernel
theorem dX0_has_18 : decode cX0_has 18 = .ok (.iconst 1, 1) := by decide +kernel
theorem dX0_has_19 : decode cX0_has 19 = .ok (.goto 4, 3) := by decide +kernel
theorem dX0_has_22 : decode cX0_has 22 = .ok (.iconst 0, 1) := by decide +kernel
theorem dX0_has_23 : decode cX0_has 23 = .ok (.ireturn, 1) := by decide +kernel
theorem dX0_kindOf_0 : decode cX0_kindOf 0 = .ok (.aload_n 0, 1) := by decide +kernel
theorem dX0_kindOf_1 : decode cX0_kindOf 1 = .ok (.iload_n 1, 1) := by decide +kernel
theorem dX0_kindOf_2 : decode cX0_kindOf 2 = .ok (.invokevirtual 22, 3) := by decide +kernel
theorem dX0_kindOf_5 : decode cX0_kindOf 5 = .ok (.ifCond .eq 12, 3) := by decide +kernel
theorem dX0_kindOf_8 : decode cX0_kindOf 8 = .ok (.aload_n 0, 1) := by decide +kernel
theorem dX0_kindOf_9 : decode cX0_kindOf 9 = .ok (.getfield 11, 3) := by decide +kernel
theorem dX0_kindOf_12 : decode cX0_kindOf 12 = .ok (.iload_n 1, 1) := by decide +kernel
theorem dX0_kindOf_13 : decode cX0_kindOf 13 = .ok (.iaload, 1) := by decide +kernel
theorem dX0_kindOf_14 : decode cX0_kindOf 14 = .ok (.goto 4, 3) := by decide +kernel
theorem dX0_kindOf_17 : decode cX0_kindOf 17 = .ok (.iconst (-1), 1) := by decide +kernel
theorem dX0_kindOf_18 : decode cX0_kindOf 18 = .ok (.ireturn, 1) := by decide +kernel
theorem dX0_isUnder_0 : decode cX0_isUnder 0 = .ok (.iload_n 0, 1) := by decide +kernel
theorem dX0_isUnder_1 : decode cX0_isUnder 1 = .ok (.istore_n 2, 1) := by decide +kernel
theorem dX0_isUnder_2 : decode cX0_isUnder 2 = .ok (.iconst 0, 1) := by decide +kernel
theorem dX0_isUnder_3 : decode cX0_isUnder 3 = .ok (.istore_n 3, 1) := by decide +kernel
theorem dX0_isUnder_4 : decode cX0_isUnder 4 = .ok (.iload_n 3, 1) := by decide +kernel
theorem dX0_isUnder_5 : decode cX0_isUnder 5 = .ok (.bipush 8, 2) := by decide +kernel
theorem dX0_isUnder_7 : decode cX0_isUnder 7 = .ok (.if_icmp .ge 23, 3) := by decide +kernel
theorem dX0_isUnder_10 : decode cX0_isUnder 10 = .ok (.iload_n 2, 1) := by decide +kernel
theorem dX0_isUnder_11 : decode cX0_isUnder 11 = .ok (.ifCond .lt 19, 3) := by decide +kernel
theorem dX0_isUnder_14 : decode cX0_isUnder 14 = .ok (.iload_n 2, 1) := by decide +kernel
theorem dX0_isUnder_15 : decode cX0_isUnder 15 = .ok (.iload_n 1, 1) := by decide +kernel
theorem dX0_isUnder_16 : decode cX0_isUnder 16 = .ok (.if_icmp .eq 14, 3) := by decide +kernel
theorem dX0_isUnder_19 : decode cX0_isUnder 19 = .ok (.iload_n 2, 1) := by decide +kernel
theorem dX0_isUnder_20 : decode cX0_isUnder 20 = .ok (.invokestatic 26, 3) := by decide +kernel
theorem dX0_isUnder_23 : decode cX0_isUnder 23 = .ok (.istore_n 2, 1) := by decide +kernel
theorem dX0_isUnder_24 : decode cX0_isUnder 24 = .ok (.iinc 3 1, 3) := by decide +kernel
theorem dX0_isUnder_27 : decode cX0_isUnder 27 = .ok (.goto (-23), 3) := by decide +kernel
theorem dX0_isUnder_30 : decode cX0_isUnder 30 = .ok (.iload_n 2, 1) := by decide +kernel
theorem dX0_isUnder_31 : decode cX0_isUnder 31 = .ok (.iload_n 1, 1) := by decide +kernel
theorem dX0_isUnder_32 : decode cX0_isUnder 32 = .ok (.if_icmp .ne 7, 3) := by decide +kernel
theorem dX0_isUnder_35 : decode cX0_isUnder 35 = .ok (.iconst 1, 1) := by decide +kernel
theorem dX0_isUnder_36 : decode cX0_isUnder 36 = .ok (.goto 4, 3) := by decide +kernel
theorem dX0_isUnder_39 : decode cX0_isUnder 39 = .ok (.iconst 0, 1) := by decide +kernel
theorem dX0_isUnder_40 : decode cX0_isUnder 40 = .ok (.ireturn, 1) := by decide +kernel
theorem dX0_aboveOf_0 : decode cX0_aboveOf 0 = .ok (.iload_n 0, 1) := by decide +kernel
theorem dX0_aboveOf_1 : decode cX0_aboveOf 1 = .ok (.ifCond .lt 19, 3) := by decide +kernel
theorem dX0_aboveOf_4 : decode cX0_aboveOf 4 = .ok (.iload_n 0, 1) := by decide +kernel
theorem dX0_aboveOf_5 : decode cX0_aboveOf 5 = .ok (.getstatic 30, 3) := by decide +kernel
theorem dX0_aboveOf_8 : decode cX0_aboveOf 8 = .ok (.arraylength, 1) := by decide +kernel
theorem dX0_aboveOf_9 : decode cX0_aboveOf 9 = .ok (.if_icmp .ge 11, 3) := by decide +kernel
theorem dX0_aboveOf_12 : decode cX0_aboveOf 12 = .ok (.getstatic 30, 3) := by decide +kernel
theorem dX0_aboveOf_15 : decode cX0_aboveOf 15 = .ok (.iload_n 0, 1) := by decide +kernel
theorem dX0_aboveOf_16 : decode cX0_aboveOf 16 = .ok (.iaload, 1) := by decide +kernel
theorem dX0_aboveOf_17 : decode cX0_aboveOf 17 = .ok (.goto 4, 3) := by decide +kernel
theorem dX0_aboveOf_20 : decode cX0_aboveOf 20 = .ok (.iconst (-1), 1) := by decide +kernel
theorem dX0_aboveOf_21 : decode cX0_aboveOf 21 = .ok (.ireturn, 1) := by decide +kernel
theorem dX0_ownBody_0 : decode cX0_ownBody 0 = .ok (.iload_n 0, 1) := by decide +kernel
theorem dX0_ownBody_1 : decode cX0_ownBody 1 = .ok (.iconst 4, 1) := by decide +kernel
theorem dX0_ownBody_2 : decode cX0_ownBody 2 = .ok (.imul, 1) := by decide +kernel
theorem dX0_ownBody_3 : decode cX0_ownBody 3 = .ok (.iload_n 1, 1) := by decide +kernel
theorem dX0_ownBody_4 : decode cX0_ownBody 4 = .ok (.iadd, 1) := by decide +kernel
theorem dX0_ownBody_5 : decode cX0_ownBody 5 = .ok (.istore_n 2, 1) := by decide +kernel
theorem dX0_ownBody_6 : decode cX0_ownBody 6 = .ok (.iload_n 2, 1) := by decide +kernel
theorem dX0_ownBody_7 : decode cX0_ownBody 7 = .ok (.ifCond .lt 19, 3) := by decide +kernel
theorem dX0_ownBody_10 : decode cX0_ownBody 10 = .ok (.iload_n 2, 1) := by decide +kernel
theorem dX0_ownBody_11 : decode cX0_ownBody 11 = .ok (.getstatic 33, 3) := by decide +kernel
theorem dX0_ownBody_14 : decode cX0_ownBody 14 = .ok (.arraylength, 1) := by decide +kernel
theorem dX0_ownBody_15 : decode cX0_ownBody 15 = .ok (.if_icmp .ge 11, 3) := by decide +kernel
theorem dX0_ownBody_18 : decode cX0_ownBody 18 = .ok (.getstatic 33, 3) := by decide +kernel
theorem dX0_ownBody_21 : decode cX0_ownBody 21 = .ok (.iload_n 2, 1) := by decide +kernel
theorem dX0_ownBody_22 : decode cX0_ownBody 22 = .ok (.iaload, 1) := by decide +kernel
theorem dX0_ownBody_23 : decode cX0_ownBody 23 = .ok (.goto 4, 3) := by decide +kernel
theorem dX0_ownBody_26 : decode cX0_ownBody 26 = .ok (.iconst 0, 1) := by decide +kernel
theorem dX0_ownBody_27 : decode cX0_ownBody 27 = .ok (.ireturn, 1) := by decide +kernel
theorem dX0_nearest_0 : decode cX0_nearest 0 = .ok (.iload_n 0, 1) := by decide +kernel
theorem dX0_nearest_1 : decode cX0_nearest 1 = .ok (.istore_n 2, 1) := by decide +kernel
theorem dX0_nearest_2 : decode cX0_nearest 2 = .ok (.iconst 0, 1) := by decide +kernel
theorem dX0_nearest_3 : decode cX0_nearest 3 = .ok (.istore_n 3, 1) := by decide +kernel
theorem dX0_nearest_4 : decode cX0_nearest 4 = .ok (.iload_n 3, 1) := by decide +kernel
theorem dX0_nearest_5 : decode cX0_nearest 5 = .ok (.bipush 8, 2) := by decide +kernel
theorem dX0_nearest_7 : decode cX0_nearest 7 = .ok (.if_icmp .ge 26, 3) := by decide +kernel
theorem dX0_nearest_10 : decode cX0_nearest 10 = .ok (.iload_n 2, 1) := by decide +kernel
theorem dX0_nearest_11 : decode cX0_nearest 11 = .ok (.ifCond .lt 22, 3) := by decide +kernel
theorem dX0_nearest_14 : decode cX0_nearest 14 = .ok (.iload_n 2, 1) := by decide +kernel
theorem dX0_nearest_15 : decode cX0_nearest 15 = .ok (.iload_n 1, 1) := by decide +kernel
theorem dX0_nearest_16 : decode cX0_nearest 16 = .ok (.invokestatic 36, 3) := by decide +kernel
theorem dX0_nearest_19 : decode cX0_nearest 19 = .ok (.ifCond .ne 14, 3) := by decide +kernel
theorem dX0_nearest_22 : decode cX0_nearest 22 = .ok (.iload_n 2, 1) := by decide +kernel
theorem dX0_nearest_23 : decode cX0_nearest 23 = .ok (.invokestatic 26, 3) := by decide +kernel
theorem dX0_nearest_26 : decode cX0_nearest 26 = .ok (.istore_n 2, 1) := by decide +kernel
theorem dX0_nearest_27 : decode cX0_nearest 27 = .ok (.iinc 3 1, 3) := by decide +kernel
theorem dX0_nearest_30 : decode cX0_nearest 30 = .ok (.goto (-26), 3) := by decide +kernel
theorem dX0_nearest_33 : decode cX0_nearest 33 = .ok (.iload_n 2, 1) := by decide +kernel
theorem dX0_nearest_34 : decode cX0_nearest 34 = .ok (.ireturn, 1) := by decide +kernel
theorem dX0_note_0 : decode cX0_note 0 = .ok (.aload_n 0, 1) := by decide +kernel
theorem dX0_note_1 : decode cX0_note 1 = .ok (.getfield 40, 3) := by decide +kernel
theorem dX0_note_4 : decode cX0_note 4 = .ok (.ifCond .lt 22, 3) := by decide +kernel
theorem dX0_note_7 : decode cX0_note 7 = .ok (.aload_n 0, 1) := by decide +kernel
theorem dX0_note_8 : decode cX0_note 8 = .ok (.getfield 40, 3) := by decide +kernel
theorem dX0_note_11 : decode cX0_note 11 = .ok (.bipush 24, 2) := by decide +kernel
theorem dX0_note_13 : decode cX0_note 13 = .ok (.if_icmp .ge 13, 3) := by decide +kernel
theorem dX0_note_16 : decode cX0_note 16 = .ok (.aload_n 0, 1) := by decide +kernel
theorem dX0_note_17 : decode cX0_note 17 = .ok (.getfield 15, 3) := by decide +kernel
theorem dX0_note_20 : decode cX0_note 20 = .ok (.aload_n 0, 1) := by decide +kernel
theorem dX0_note_21 : decode cX0_note 21 = .ok (.getfield 40, 3) := by decide +kernel
theorem dX0_note_24 : decode cX0_note 24 = .ok (.iload_n 1, 1) := by decide +kernel
theorem dX0_note_25 : decode cX0_note 25 = .ok (.iastore, 1) := by decide +kernel
theorem dX0_note_26 : decode cX0_note 26 = .ok (.aload_n 0, 1) := by decide +kernel
theorem dX0_note_27 : decode cX0_note 27 = .ok (.dup, 1) := by decide +kernel
theorem dX0_note_28 : decode cX0_note 28 = .ok (.getfield 40, 3) := by decide +kernel
theorem dX0_note_31 : decode cX0_note 31 = .ok (.iconst 1, 1) := by decide +kernel
theorem dX0_note_32 : decode cX0_note 32 = .ok (.iadd, 1) := by decide +kernel
theorem dX0_note_33 : decode cX0_note 33 = .ok (.putfield 40, 3) := by decide +kernel
theorem dX0_note_36 : decode cX0_note 36 = .ok (.return_, 1) := by decide +kernel
theorem dX0_answer_0 : decode cX0_answer 0 = .ok (.aload_n 0, 1) := by decide +kernel
theorem dX0_answer_1 : decode cX0_answer 1 = .ok (.iload_n 1, 1) := by decide +kernel
theorem dX0_answer_2 : decode cX0_answer 2 = .ok (.aload_n 0, 1) := by decide +kernel
theorem dX0_answer_3 : decode cX0_answer 3 = .ok (.iload_n 1, 1) := by decide +kernel
theorem dX0_answer_4 : decode cX0_answer 4 = .ok (.invokevirtual 43, 3) := by decide +kernel
theorem dX0_answer_7 : decode cX0_answer 7 = .ok (.iload_n 2, 1) := by decide +kernel
theorem dX0_answer_8 : decode cX0_answer 8 = .ok (.iload_n 3, 1) := by decide +kernel
theorem dX0_answer_9 : decode cX0_answer 9 = .ok (.iconst 0, 1) := by decide +kernel
theorem dX0_answer_10 : decode cX0_answer 10 = .ok (.invokevirtual 46, 3) := by decide +kernel
theorem dX0_answer_13 : decode cX0_answer 13 = .ok (.ireturn, 1) := by decide +kernel
theorem dX0_perform_0 : decode cX0_perform 0 = .ok (.iload_n 2, 1) := by decide +kernel
theorem dX0_perform_1 : decode cX0_perform 1 = .ok (.iload_n 3, 1) := by decide +kernel
theorem dX0_perform_2 : decode cX0_perform 2 = .ok (.invokestatic 50, 3) := by decide +kernel
theorem dX0_perform_5 : decode cX0_perform 5 = .ok (.istore 6, 2) := by decide +kernel
theorem dX0_perform_7 : decode cX0_perform 7 = .ok (.iload 6, 2) := by decide +kernel
theorem dX0_perform_9 : decode cX0_perform 9 = .ok (.ifCond .lt 10, 3) := by decide +kernel
theorem dX0_perform_12 : decode cX0_perform 12 = .ok (.iload 5, 2) := by decide +kernel
theorem dX0_perform_14 : decode cX0_perform 14 = .ok (.bipush 40, 2) := by decide +kernel
theorem dX0_perform_16 : decode cX0_perform 16 = .ok (.if_icmp .lt 5, 3) := by decide +kernel
theorem dX0_perform_19 : decode cX0_perform 19 = .ok (.iconst 0, 1) := by decide +kernel
theorem dX0_perform_20 : decode cX0_perform 20 = .ok (.ireturn, 1) := by decide +kernel
theorem dX0_perform_21 : decode cX0_perform 21 = .ok (.iload 6, 2) := by decide +kernel
theorem dX0_perform_23 : decode cX0_perform 23 = .ok (.iload_n 3, 1) := by decide +kernel
theorem dX0_perform_24 : decode cX0_perform 24 = .ok (.invokestatic 36, 3) := by decide +kernel
theorem dX0_perform_27 : decode cX0_perform 27 = .ok (.istore 7, 2) := by decide +kernel
theorem dX0_perform_29 : decode cX0_perform 29 = .ok (.iload 6, 2) := by decide +kernel
theorem dX0_perform_31 : decode cX0_perform 31 = .ok (.invokestatic 26, 3) := by decide +kernel
theorem dX0_perform_34 : decode cX0_perform 34 = .ok (.istore 8, 2) := by decide +kernel
theorem dX0_perform_36 : decode cX0_perform 36 = .ok (.aload_n 0, 1) := by decide +kernel
theorem dX0_perform_37 : decode cX0_perform 37 = .ok (.iload_n 1, 1) := by decide +kernel
theorem dX0_perform_38 : decode cX0_perform 38 = .ok (.invokevirtual 43, 3) := by decide +kernel
theorem dX0_perform_41 : decode cX0_perform 41 = .ok (.istore 9, 2) := by decide +kernel
theorem dX0_perform_43 : decode cX0_perform 43 = .ok (.iload 5, 2) := by decide +kernel
theorem dX0_perform_45 : decode cX0_perform 45 = .ok (.iconst 1, 1) := by decide +kernel
theorem dX0_perform_46 : decode cX0_perform 46 = .ok (.iadd, 1) := by decide +kernel
theorem dX0_perform_47 : decode cX0_perform 47 = .ok (.istore 10, 2) := by decide +kernel
theorem dX0_perform_49 : decode cX0_perform 49 = .ok (.aload_n 0, 1) := by decide +kernel
theorem dX0_perform_50 : decode cX0_perform 50 = .ok (.iload 7, 2) := by decide +kernel
theorem dX0_perform_52 : decode cX0_perform 52 = .ok (.invokevirtual 53, 3) := by decide +kernel
theorem dX0_perform_55 : decode cX0_perform 55 = .ok (.iload 7, 2) := by decide +kernel
theorem dX0_perform_57 : decode cX0_perform 57 = .ok (.lookupswitch 342 #[(1, 123), (2, 128), (10, 153), (11, 168), (20, 173), (30, 188), (40, 202), (41, 217), (50, 232), (60, 247), (61, 272), (70, 287), (80, 302), (81, 327)], 123) := by decide +kernel
theorem dX0_perform_180 : decode cX0_perform 180 = .ok (.iload 4, 2) := by decide +kernel
theorem dX0_perform_182 : decode cX0_perform 182 = .ok (.iload_n 1, 1) := by decide +kernel
theorem dX0_perform_183 : decode cX0_perform 183 = .ok (.iadd, 1) := by decide +kernel
theorem dX0_perform_184 : decode cX0_perform 184 = .ok (.ireturn, 1) := by decide +kernel
theorem dX0_perform_185 : decode cX0_perform 185 = .ok (.aload_n 0, 1) := by decide +kernel
theorem dX0_perform_186 : decode cX0_perform 186 = .ok (.iload_n 1, 1) := by decide +kernel
theorem dX0_perform_187 : decode cX0_perform 187 = .ok (.iload 9, 2) := by decide +kernel
theorem dX0_perform_189 : decode cX0_perform 189 = .ok (.iconst 1, 1) := by decide +kernel
theorem dX0_perform_190 : decode cX0_perform 190 = .ok (.iload 4, 2) := by decide +kernel
theorem dX0_perform_192 : decode cX0_perform 192 = .ok (.iload 10, 2) := by decide +kernel
theorem dX0_perform_194 : decode cX0_perform 194 = .ok (.invokevirtual 46, 3) := by decide +kernel
theorem dX0_perform_197 : decode cX0_perform 197 = .ok (.aload_n 0, 1) := by decide +kernel
theorem dX0_perform_198 : decode cX0_perform 198 = .ok (.iload_n 1, 1) := by decide +kernel
theorem dX0_perform_199 : decode cX0_perform 199 = .ok (.iload 9, 2) := by decide +kernel
theorem dX0_perform_201 : decode cX0_perform 201 = .ok (.iconst 2, 1) := by decide +kernel
theorem dX0_perform_202 : decode cX0_perform 202 = .ok (.iconst 1, 1) := by decide +kernel
theorem dX0_perform_203 : decode cX0_perform 203 = .ok (.iload 10, 2) := by decide +kernel
theorem dX0_perform_205 : decode cX0_perform 205 = .ok (.invokevirtual 46, 3) := by decide +kernel
theorem dX0_perform_208 : decode cX0_perform 208 = .ok (.isub, 1) := by decide +kernel
theorem dX0_perform_209 : decode cX0_perform 209 = .ok (.ireturn, 1) := by decide +kernel
theorem dX0_perform_210 : decode cX0_perform 210 = .ok (.aload_n 0, 1) := by decide +kernel
theorem dX0_perform_211 : decode cX0_perform 211 = .ok (.iload_n 1, 1) := by decide +kernel
theorem dX0_perform_212 : decode cX0_perform 212 = .ok (.iload 9, 2) := by decide +kernel
theorem dX0_perform_214 : decode cX0_perform 214 = .ok (.iconst 0, 1) := by decide +kernel
theorem dX0_perform_215 : decode cX0_perform 215 = .ok (.iload 4, 2) := by decide +kernel
theorem dX0_perform_217 : decode cX0_perform 217 = .ok (.iload 10, 2) := by decide +kernel
theorem dX0_perform_219 : decode cX0_perform 219 = .ok (.invokevirtual 46, 3) := by decide +kernel
theorem dX0_perform_222 : decode cX0_perform 222 = .ok (.iconst 2, 1) := by decide +kernel
theorem dX0_perform_223 : decode cX0_perform 223 = .ok (.imul, 1) := by decide +kernel
theorem dX0_perform_224 : decode cX0_perform 224 = .ok (.ireturn, 1) := by decide +kernel
theorem dX0_perform_225 : decode cX0_perform 225 = .ok (.iload 4, 2) := by decide +kernel
theorem dX0_perform_227 : decode cX0_perform 227 = .ok (.iload_n 1, 1) := by decide +kernel
theorem dX0_perform_228 : decode cX0_perform 228 = .ok (.ixor, 1) := by decide +kernel
theorem dX0_perform_229 : decode cX0_perform 229 = .ok (.ireturn, 1) := by decide +kernel
theorem dX0_perform_230 : decode cX0_perform 230 = .ok (.aload_n 0, 1) := by decide +kernel
theorem dX0_perform_231 : decode cX0_perform 231 = .ok (.iload_n 1, 1) := by decide +kernel
theorem dX0_perform_232 : decode cX0_perform 232 = .ok (.iload 8, 2) := by decide +kernel
theorem dX0_perform_234 : decode cX0_perform 234 = .ok (.iconst 0, 1) := by decide +kernel
theorem dX0_perform_235 : decode cX0_perform 235 = .ok (.iload 4, 2) := by decide +kernel
theorem dX0_perform_237 : decode cX0_perform 237 = .ok (.iload 10, 2) := by decide +kernel
theorem dX0_perform_239 : decode cX0_perform 239 = .ok (.invokevirtual 46, 3) := by decide +kernel
theorem dX0_perform_242 : decode cX0_perform 242 = .ok (.iconst 3, 1) := by decide +kernel
theorem dX0_perform_243 : decode cX0_perform 243 = .ok (.iadd, 1) := by decide +kernel
theorem dX0_perform_244 : decode cX0_perform 244 = .ok (.ireturn, 1) := by decide +kernel
theorem dX0_perform_245 : decode cX0_perform 245 = .ok (.aload_n 0, 1) := by decide +kernel
theorem dX0_perform_246 : decode cX0_perform 246 = .ok (.iload_n 1, 1) := by decide +kernel
theorem dX0_perform_247 : decode cX0_perform 247 = .ok (.iload 8, 2) := by decide +kernel
theorem dX0_perform_249 : decode cX0_perform 249 = .ok (.iconst 1, 1) := by decide +kernel
theorem dX0_perform_250 : decode cX0_perform 250 = .ok (.iload 4, 2) := by decide +kernel
theorem dX0_perform_252 : decode cX0_perform 252 = .ok (.iload 10, 2) := by decide +kernel
theorem dX0_perform_254 : decode cX0_perform 254 = .ok (.invokevirtual 46, 3) := by decide +kernel
theorem dX0_perform_257 : decode cX0_perform 257 = .ok (.ineg, 1) := by decide +kernel
theorem dX0_perform_258 : decode cX0_perform 258 = .ok (.ireturn, 1) := by decide +kernel
theorem dX0_perform_259 : decode cX0_perform 259 = .ok (.aload_n 0, 1) := by decide +kernel
theorem dX0_perform_260 : decode cX0_perform 260 = .ok (.iload_n 1, 1) := by decide +kernel
theorem dX0_perform_261 : decode cX0_perform 261 = .ok (.iload 8, 2) := by decide +kernel
theorem dX0_perform_263 : decode cX0_perform 263 = .ok (.iconst 2, 1) := by decide +kernel
theorem dX0_perform_264 : decode cX0_perform 264 = .ok (.iload 4, 2) := by decide +kernel
theorem dX0_perform_266 : decode cX0_perform 266 = .ok (.iload 10, 2) := by decide +kernel
theorem dX0_perform_268 : decode cX0_perform 268 = .ok (.invokevirtual 46, 3) := by decide +kernel
theorem dX0_perform_271 : decode cX0_perform 271 = .ok (.iconst 3, 1) := by decide +kernel
theorem dX0_perform_272 : decode cX0_perform 272 = .ok (.imul, 1) := by decide +kernel
theorem dX0_perform_273 : decode cX0_perform 273 = .ok (.ireturn, 1) := by decide +kernel
theorem dX0_perform_274 : decode cX0_perform 274 = .ok (.aload_n 0, 1) := by decide +kernel
theorem dX0_perform_275 : decode cX0_perform 275 = .ok (.iload_n 1, 1) := by decide +kernel
theorem dX0_perform_276 : decode cX0_perform 276 = .ok (.iload 8, 2) := by decide +kernel
theorem dX0_perform_278 : decode cX0_perform 278 = .ok (.iconst 1, 1) := by decide +kernel
theorem dX0_perform_279 : decode cX0_perform 279 = .ok (.iload 4, 2) := by decide +kernel
theorem dX0_perform_281 : decode cX0_perform 281 = .ok (.iconst 1, 1) := by decide +kernel
theorem dX0_perform_282 : decode cX0_perform 282 = .ok (.iadd, 1) := by decide +kernel
theorem dX0_perform_283 : decode cX0_perform 283 = .ok (.iload 10, 2) := by decide +kernel
theorem dX0_perform_285 : decode cX0_perform 285 = .ok (.invokevirtual 46, 3) := by decide +kernel
theorem dX0_perform_288 : decode cX0_perform 288 = .ok (.ireturn, 1) := by decide +kernel
theorem dX0_perform_289 : decode cX0_perform 289 = .ok (.aload_n 0, 1) := by decide +kernel
theorem dX0_perform_290 : decode cX0_perform 290 = .ok (.iload_n 1, 1) := by decide +kernel
theorem dX0_perform_291 : decode cX0_perform 291 = .ok (.iload 8, 2) := by decide +kernel
theorem dX0_perform_293 : decode cX0_perform 293 = .ok (.iconst 3, 1) := by decide +kernel
theorem dX0_perform_294 : decode cX0_perform 294 = .ok (.iload 4, 2) := by decide +kernel
theorem dX0_perform_296 : decode cX0_perform 296 = .ok (.iload 10, 2) := by decide +kernel
theorem dX0_perform_298 : decode cX0_perform 298 = .ok (.invokevirtual 46, 3) := by decide +kernel
theorem dX0_perform_301 : decode cX0_perform 301 = .ok (.iconst 5, 1) := by decide +kernel
theorem dX0_perform_302 : decode cX0_perform 302 = .ok (.ixor, 1) := by decide +kernel
theorem dX0_perform_303 : decode cX0_perform 303 = .ok (.ireturn, 1) := by decide +kernel
theorem dX0_perform_304 : decode cX0_perform 304 = .ok (.aload_n 0, 1) := by decide +kernel
theorem dX0_perform_305 : decode cX0_perform 305 = .ok (.iload_n 1, 1) := by decide +kernel
theorem dX0_perform_306 : decode cX0_perform 306 = .ok (.iload 8, 2) := by decide +kernel
theorem dX0_perform_308 : decode cX0_perform 308 = .ok (.iconst 2, 1) := by decide +kernel
theorem dX0_perform_309 : decode cX0_perform 309 = .ok (.iload 4, 2) := by decide +kernel
theorem dX0_perform_311 : decode cX0_perform 311 = .ok (.iload 10, 2) := by decide +kernel
theorem dX0_perform_313 : decode cX0_perform 313 = .ok (.invokevirtual 46, 3) := by decide +kernel
theorem dX0_perform_316 : decode cX0_perform 316 = .ok (.aload_n 0, 1) := by decide +kernel
theorem dX0_perform_317 : decode cX0_perform 317 = .ok (.iload_n 1, 1) := by decide +kernel
theorem dX0_perform_318 : decode cX0_perform 318 = .ok (.iload 9, 2) := by decide +kernel
theorem dX0_perform_320 : decode cX0_perform 320 = .ok (.iconst 0, 1) := by decide +kernel
theorem dX0_perform_321 : decode cX0_perform 321 = .ok (.iconst 2, 1) := by decide +kernel
theorem dX0_perform_322 : decode cX0_perform 322 = .ok (.iload 10, 2) := by decide +kernel
theorem dX0_perform_324 : decode cX0_perform 324 = .ok (.invokevirtual 46, 3) := by decide +kernel
theorem dX0_perform_327 : decode cX0_perform 327 = .ok (.isub, 1) := by decide +kernel
theorem dX0_perform_328 : decode cX0_perform 328 = .ok (.ireturn, 1) := by decide +kernel
theorem dX0_perform_329 : decode cX0_perform 329 = .ok (.aload_n 0, 1) := by decide +kernel
theorem dX0_perform_330 : decode cX0_perform 330 = .ok (.iload_n 1, 1) := by decide +kernel
theorem dX0_perform_331 : decode cX0_perform 331 = .ok (.iload 8, 2) := by decide +kernel
theorem dX0_perform_333 : decode cX0_perform 333 = .ok (.iconst 3, 1) := by decide +kernel
theorem dX0_perform_334 : decode cX0_perform 334 = .ok (.iload 4, 2) := by decide +kernel
theorem dX0_perform_336 : decode cX0_perform 336 = .ok (.iload 10, 2) := by decide +kernel
theorem dX0_perform_338 : decode cX0_perform 338 = .ok (.invokevirtual 46, 3) := by decide +kernel
theorem dX0_perform_341 : decode cX0_perform 341 = .ok (.iconst 1, 1) := by decide +kernel
theorem dX0_perform_342 : decode cX0_perform 342 = .ok (.iadd, 1) := by decide +kernel
theorem dX0_perform_343 : decode cX0_perform 343 = .ok (.ireturn, 1) := by decide +kernel
theorem dX0_perform_344 : decode cX0_perform 344 = .ok (.aload_n 0, 1) := by decide +kernel
theorem dX0_perform_345 : decode cX0_perform 345 = .ok (.iload_n 1, 1) := by decide +kernel
theorem dX0_perform_346 : decode cX0_perform 346 = .ok (.iload 8, 2) := by decide +kernel
theorem dX0_perform_348 : decode cX0_perform 348 = .ok (.iconst 0, 1) := by decide +kernel
theorem dX0_perform_349 : decode cX0_perform 349 = .ok (.iload 4, 2) := by decide +kernel
theorem dX0_perform_351 : decode cX0_perform 351 = .ok (.iload 10, 2) := by decide +kernel
theorem dX0_perform_353 : decode cX0_perform 353 = .ok (.invokevirtual 46, 3) := by decide +kernel
theorem dX0_perform_356 : decode cX0_perform 356 = .ok (.iconst 2, 1) := by decide +kernel
theorem dX0_perform_357 : decode cX0_perform 357 = .ok (.imul, 1) := by decide +kernel
theorem dX0_perform_358 : decode cX0_perform 358 = .ok (.ireturn, 1) := by decide +kernel
theorem dX0_perform_359 : decode cX0_perform 359 = .ok (.aload_n 0, 1) := by decide +kernel
theorem dX0_perform_360 : decode cX0_perform 360 = .ok (.iload_n 1, 1) := by decide +kernel
theorem dX0_perform_361 : decode cX0_perform 361 = .ok (.iload 8, 2) := by decide +kernel
theorem dX0_perform_363 : decode cX0_perform 363 = .ok (.iconst 1, 1) := by decide +kernel
theorem dX0_perform_364 : decode cX0_perform 364 = .ok (.iload 4, 2) := by decide +kernel
theorem dX0_perform_366 : decode cX0_perform 366 = .ok (.iload 10, 2) := by decide +kernel
theorem dX0_perform_368 : decode cX0_perform 368 = .ok (.invokevirtual 46, 3) := by decide +kernel
theorem dX0_perform_371 : decode cX0_perform 371 = .ok (.aload_n 0, 1) := by decide +kernel
theorem dX0_perform_372 : decode cX0_perform 372 = .ok (.iload_n 1, 1) := by decide +kernel
theorem dX0_perform_373 : decode cX0_perform 373 = .ok (.iload 9, 2) := by decide +kernel
theorem dX0_perform_375 : decode cX0_perform 375 = .ok (.iconst 2, 1) := by decide +kernel
theorem dX0_perform_376 : decode cX0_perform 376 = .ok (.iconst 2, 1) := by decide +kernel
theorem dX0_perform_377 : decode cX0_perform 377 = .ok (.iload 10, 2) := by decide +kernel
theorem dX0_perform_379 : decode cX0_perform 379 = .ok (.invokevirtual 46, 3) := by decide +kernel
theorem dX0_perform_382 : decode cX0_perform 382 = .ok (.iadd, 1) := by decide +kernel
theorem dX0_perform_383 : decode cX0_perform 383 = .ok (.ireturn, 1) := by decide +kernel
theorem dX0_perform_384 : decode cX0_perform 384 = .ok (.aload_n 0, 1) := by decide +kernel
theorem dX0_perform_385 : decode cX0_perform 385 = .ok (.iload_n 1, 1) := by decide +kernel
theorem dX0_perform_386 : decode cX0_perform 386 = .ok (.iload 8, 2) := by decide +kernel
theorem dX0_perform_388 : decode cX0_perform 388 = .ok (.iconst 0, 1) := by decide +kernel
theorem dX0_perform_389 : decode cX0_perform 389 = .ok (.iload 4, 2) := by decide +kernel
theorem dX0_perform_391 : decode cX0_perform 391 = .ok (.iload 10, 2) := by decide +kernel
theorem dX0_perform_393 : decode cX0_perform 393 = .ok (.invokevirtual 46, 3) := by decide +kernel
theorem dX0_perform_396 : decode cX0_perform 396 = .ok (.iconst 1, 1) := by decide +kernel
theorem dX0_perform_397 : decode cX0_perform 397 = .ok (.isub, 1) := by decide +kernel
theorem dX0_perform_398 : decode cX0_perform 398 = .ok (.ireturn, 1) := by decide +kernel
theorem dX0_perform_399 : decode cX0_perform 399 = .ok (.iconst 0, 1) := by decide +kernel
theorem dX0_perform_400 : decode cX0_perform 400 = .ok (.ireturn, 1) := by decide +kernel
