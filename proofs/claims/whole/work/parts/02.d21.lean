theorem dX11_act_6 : decode cX11_act 6 = .ok (.iload_n 1, 1) := by decide +kernel
theorem dX11_act_7 : decode cX11_act 7 = .ok (.invokevirtual 393, 3) := by decide +kernel
theorem dX11_act_10 : decode cX11_act 10 = .ok (.ifCond .eq 12, 3) := by decide +kernel
theorem dX11_act_13 : decode cX11_act 13 = .ok (.iload_n 2, 1) := by decide +kernel
theorem dX11_act_14 : decode cX11_act 14 = .ok (.iconst 0, 1) := by decide +kernel
theorem dX11_act_15 : decode cX11_act 15 = .ok (.iconst 3, 1) := by decide +kernel
theorem dX11_act_16 : decode cX11_act 16 = .ok (.invokestatic 118, 3) := by decide +kernel
theorem dX11_act_19 : decode cX11_act 19 = .ok (.ifCond .ne 5, 3) := by decide +kernel
theorem dX11_act_22 : decode cX11_act 22 = .ok (.iconst 0, 1) := by decide +kernel
theorem dX11_act_23 : decode cX11_act 23 = .ok (.ireturn, 1) := by decide +kernel
theorem dX11_act_24 : decode cX11_act 24 = .ok (.iload_n 2, 1) := by decide +kernel
theorem dX11_act_25 : decode cX11_act 25 = .ok (.ifCond .ne 12, 3) := by decide +kernel
theorem dX11_act_28 : decode cX11_act 28 = .ok (.aload_n 0, 1) := by decide +kernel
theorem dX11_act_29 : decode cX11_act 29 = .ok (.iload_n 1, 1) := by decide +kernel
theorem dX11_act_30 : decode cX11_act 30 = .ok (.iload_n 3, 1) := by decide +kernel
theorem dX11_act_31 : decode cX11_act 31 = .ok (.invokevirtual 369, 3) := by decide +kernel
theorem dX11_act_34 : decode cX11_act 34 = .ok (.goto 37, 3) := by decide +kernel
theorem dX11_act_37 : decode cX11_act 37 = .ok (.iload_n 2, 1) := by decide +kernel
theorem dX11_act_38 : decode cX11_act 38 = .ok (.iconst 1, 1) := by decide +kernel
theorem dX11_act_39 : decode cX11_act 39 = .ok (.if_icmp .ne 12, 3) := by decide +kernel
theorem dX11_act_42 : decode cX11_act 42 = .ok (.aload_n 0, 1) := by decide +kernel
theorem dX11_act_43 : decode cX11_act 43 = .ok (.iload_n 1, 1) := by decide +kernel
theorem dX11_act_44 : decode cX11_act 44 = .ok (.iload_n 3, 1) := by decide +kernel
theorem dX11_act_45 : decode cX11_act 45 = .ok (.invokevirtual 387, 3) := by decide +kernel
theorem dX11_act_48 : decode cX11_act 48 = .ok (.goto 23, 3) := by decide +kernel
theorem dX11_act_51 : decode cX11_act 51 = .ok (.iload_n 2, 1) := by decide +kernel
theorem dX11_act_52 : decode cX11_act 52 = .ok (.iconst 2, 1) := by decide +kernel
theorem dX11_act_53 : decode cX11_act 53 = .ok (.if_icmp .ne 12, 3) := by decide +kernel
theorem dX11_act_56 : decode cX11_act 56 = .ok (.aload_n 0, 1) := by decide +kernel
theorem dX11_act_57 : decode cX11_act 57 = .ok (.iload_n 1, 1) := by decide +kernel
theorem dX11_act_58 : decode cX11_act 58 = .ok (.iload_n 3, 1) := by decide +kernel
theorem dX11_act_59 : decode cX11_act 59 = .ok (.invokevirtual 378, 3) := by decide +kernel
theorem dX11_act_62 : decode cX11_act 62 = .ok (.goto 9, 3) := by decide +kernel
theorem dX11_act_65 : decode cX11_act 65 = .ok (.aload_n 0, 1) := by decide +kernel
theorem dX11_act_66 : decode cX11_act 66 = .ok (.iload_n 1, 1) := by decide +kernel
theorem dX11_act_67 : decode cX11_act 67 = .ok (.iload_n 3, 1) := by decide +kernel
theorem dX11_act_68 : decode cX11_act 68 = .ok (.invokevirtual 396, 3) := by decide +kernel
theorem dX11_act_71 : decode cX11_act 71 = .ok (.ireturn, 1) := by decide +kernel
theorem dX11_count_0 : decode cX11_count 0 = .ok (.iload_n 1, 1) := by decide +kernel
theorem dX11_count_1 : decode cX11_count 1 = .ok (.tableswitch 60 0 4 #[35, 40, 45, 50, 55], 35) := by decide +kernel
theorem dX11_count_36 : decode cX11_count 36 = .ok (.aload_n 0, 1) := by decide +kernel
theorem dX11_count_37 : decode cX11_count 37 = .ok (.getfield 115, 3) := by decide +kernel
theorem dX11_count_40 : decode cX11_count 40 = .ok (.ireturn, 1) := by decide +kernel
theorem dX11_count_41 : decode cX11_count 41 = .ok (.aload_n 0, 1) := by decide +kernel
theorem dX11_count_42 : decode cX11_count 42 = .ok (.getfield 163, 3) := by decide +kernel
theorem dX11_count_45 : decode cX11_count 45 = .ok (.ireturn, 1) := by decide +kernel
theorem dX11_count_46 : decode cX11_count 46 = .ok (.aload_n 0, 1) := by decide +kernel
theorem dX11_count_47 : decode cX11_count 47 = .ok (.getfield 142, 3) := by decide +kernel
theorem dX11_count_50 : decode cX11_count 50 = .ok (.ireturn, 1) := by decide +kernel
theorem dX11_count_51 : decode cX11_count 51 = .ok (.aload_n 0, 1) := by decide +kernel
theorem dX11_count_52 : decode cX11_count 52 = .ok (.getfield 351, 3) := by decide +kernel
theorem dX11_count_55 : decode cX11_count 55 = .ok (.ireturn, 1) := by decide +kernel
theorem dX11_count_56 : decode cX11_count 56 = .ok (.aload_n 0, 1) := by decide +kernel
theorem dX11_count_57 : decode cX11_count 57 = .ok (.getfield 354, 3) := by decide +kernel
theorem dX11_count_60 : decode cX11_count 60 = .ok (.ireturn, 1) := by decide +kernel
theorem dX11_count_61 : decode cX11_count 61 = .ok (.iconst (-1), 1) := by decide +kernel
theorem dX11_count_62 : decode cX11_count 62 = .ok (.ireturn, 1) := by decide +kernel
theorem dX11_isShelf_0 : decode cX11_isShelf 0 = .ok (.iload_n 0, 1) := by decide +kernel
theorem dX11_isShelf_1 : decode cX11_isShelf 1 = .ok (.iconst 0, 1) := by decide +kernel
theorem dX11_isShelf_2 : decode cX11_isShelf 2 = .ok (.iconst 5, 1) := by decide +kernel
theorem dX11_isShelf_3 : decode cX11_isShelf 3 = .ok (.invokestatic 118, 3) := by decide +kernel
theorem dX11_isShelf_6 : decode cX11_isShelf 6 = .ok (.ireturn, 1) := by decide +kernel
theorem dX11_keep_0 : decode cX11_keep 0 = .ok (.iload_n 1, 1) := by decide +kernel
theorem dX11_keep_1 : decode cX11_keep 1 = .ok (.invokestatic 129, 3) := by decide +kernel
theorem dX11_keep_4 : decode cX11_keep 4 = .ok (.ifCond .eq 16, 3) := by decide +kernel
theorem dX11_keep_7 : decode cX11_keep 7 = .ok (.iload_n 2, 1) := by decide +kernel
theorem dX11_keep_8 : decode cX11_keep 8 = .ok (.iconst (-1), 1) := by decide +kernel
theorem dX11_keep_9 : decode cX11_keep 9 = .ok (.if_icmp .eq 13, 3) := by decide +kernel
theorem dX11_keep_12 : decode cX11_keep 12 = .ok (.aload_n 0, 1) := by decide +kernel
theorem dX11_keep_13 : decode cX11_keep 13 = .ok (.iload_n 2, 1) := by decide +kernel
theorem dX11_keep_14 : decode cX11_keep 14 = .ok (.invokevirtual 393, 3) := by decide +kernel
theorem dX11_keep_17 : decode cX11_keep 17 = .ok (.ifCond .ne 5, 3) := by decide +kernel
theorem dX11_keep_20 : decode cX11_keep 20 = .ok (.iconst (-1), 1) := by decide +kernel
theorem dX11_keep_21 : decode cX11_keep 21 = .ok (.ireturn, 1) := by decide +kernel
theorem dX11_keep_22 : decode cX11_keep 22 = .ok (.aload_n 0, 1) := by decide +kernel
theorem dX11_keep_23 : decode cX11_keep 23 = .ok (.getfield 99, 3) := by decide +kernel
theorem dX11_keep_26 : decode cX11_keep 26 = .ok (.iload_n 1, 1) := by decide +kernel
theorem dX11_keep_27 : decode cX11_keep 27 = .ok (.iload_n 2, 1) := by decide +kernel
theorem dX11_keep_28 : decode cX11_keep 28 = .ok (.iastore, 1) := by decide +kernel
theorem dX11_keep_29 : decode cX11_keep 29 = .ok (.iconst 1, 1) := by decide +kernel
theorem dX11_keep_30 : decode cX11_keep 30 = .ok (.ireturn, 1) := by decide +kernel
theorem dX11_row_0 : decode cX11_row 0 = .ok (.iload_n 1, 1) := by decide +kernel
theorem dX11_row_1 : decode cX11_row 1 = .ok (.invokestatic 129, 3) := by decide +kernel
theorem dX11_row_4 : decode cX11_row 4 = .ok (.ifCond .eq 18, 3) := by decide +kernel
theorem dX11_row_7 : decode cX11_row 7 = .ok (.iload_n 2, 1) := by decide +kernel
theorem dX11_row_8 : decode cX11_row 8 = .ok (.iconst 0, 1) := by decide +kernel
theorem dX11_row_9 : decode cX11_row 9 = .ok (.iconst 4, 1) := by decide +kernel
theorem dX11_row_10 : decode cX11_row 10 = .ok (.invokestatic 118, 3) := by decide +kernel
theorem dX11_row_13 : decode cX11_row 13 = .ok (.ifCond .eq 9, 3) := by decide +kernel
theorem dX11_row_16 : decode cX11_row 16 = .ok (.iload_n 3, 1) := by decide +kernel
theorem dX11_row_17 : decode cX11_row 17 = .ok (.bipush 60, 2) := by decide +kernel
theorem dX11_row_19 : decode cX11_row 19 = .ok (.if_icmp .le 5, 3) := by decide +kernel
theorem dX11_row_22 : decode cX11_row 22 = .ok (.iconst (-1), 1) := by decide +kernel
theorem dX11_row_23 : decode cX11_row 23 = .ok (.ireturn, 1) := by decide +kernel
theorem dX11_row_24 : decode cX11_row 24 = .ok (.iload_n 3, 1) := by decide +kernel
theorem dX11_row_25 : decode cX11_row 25 = .ok (.ifCond .ge 6, 3) := by decide +kernel
theorem dX11_row_28 : decode cX11_row 28 = .ok (.bipush (-14), 2) := by decide +kernel
theorem dX11_row_30 : decode cX11_row 30 = .ok (.ireturn, 1) := by decide +kernel
theorem dX11_row_31 : decode cX11_row 31 = .ok (.aload_n 0, 1) := by decide +kernel
theorem dX11_row_32 : decode cX11_row 32 = .ok (.getfield 99, 3) := by decide +kernel
theorem dX11_row_35 : decode cX11_row 35 = .ok (.iload_n 1, 1) := by decide +kernel
theorem dX11_row_36 : decode cX11_row 36 = .ok (.bipush (-2), 2) := by decide +kernel
theorem dX11_row_38 : decode cX11_row 38 = .ok (.iload_n 2, 1) := by decide +kernel
theorem dX11_row_39 : decode cX11_row 39 = .ok (.isub, 1) := by decide +kernel
theorem dX11_row_40 : decode cX11_row 40 = .ok (.iastore, 1) := by decide +kernel
theorem dX11_row_41 : decode cX11_row 41 = .ok (.aload_n 0, 1) := by decide +kernel
theorem dX11_row_42 : decode cX11_row 42 = .ok (.getfield 102, 3) := by decide +kernel
theorem dX11_row_45 : decode cX11_row 45 = .ok (.iload_n 1, 1) := by decide +kernel
theorem dX11_row_46 : decode cX11_row 46 = .ok (.iload_n 3, 1) := by decide +kernel
theorem dX11_row_47 : decode cX11_row 47 = .ok (.iastore, 1) := by decide +kernel
theorem dX11_row_48 : decode cX11_row 48 = .ok (.bipush 60, 2) := by decide +kernel
theorem dX11_row_50 : decode cX11_row 50 = .ok (.iload_n 1, 1) := by decide +kernel
theorem dX11_row_51 : decode cX11_row 51 = .ok (.imul, 1) := by decide +kernel
theorem dX11_row_52 : decode cX11_row 52 = .ok (.istore 4, 2) := by decide +kernel
theorem dX11_row_54 : decode cX11_row 54 = .ok (.iload 4, 2) := by decide +kernel
theorem dX11_row_56 : decode cX11_row 56 = .ok (.bipush 60, 2) := by decide +kernel
theorem dX11_row_58 : decode cX11_row 58 = .ok (.iload_n 1, 1) := by decide +kernel
theorem dX11_row_59 : decode cX11_row 59 = .ok (.imul, 1) := by decide +kernel
theorem dX11_row_60 : decode cX11_row 60 = .ok (.bipush 60, 2) := by decide +kernel
theorem dX11_row_62 : decode cX11_row 62 = .ok (.iadd, 1) := by decide +kernel
theorem dX11_row_63 : decode cX11_row 63 = .ok (.if_icmp .ge 17, 3) := by decide +kernel
theorem dX11_row_66 : decode cX11_row 66 = .ok (.aload_n 0, 1) := by decide +kernel
theorem dX11_row_67 : decode cX11_row 67 = .ok (.getfield 105, 3) := by decide +kernel
theorem dX11_row_70 : decode cX11_row 70 = .ok (.iload 4, 2) := by decide +kernel
theorem dX11_row_72 : decode cX11_row 72 = .ok (.lconst 0, 1) := by decide +kernel
theorem dX11_row_73 : decode cX11_row 73 = .ok (.lastore, 1) := by decide +kernel
theorem dX11_row_74 : decode cX11_row 74 = .ok (.iinc 4 1, 3) := by decide +kernel
theorem dX11_row_77 : decode cX11_row 77 = .ok (.goto (-23), 3) := by decide +kernel
theorem dX11_row_80 : decode cX11_row 80 = .ok (.iconst 1, 1) := by decide +kernel
theorem dX11_row_81 : decode cX11_row 81 = .ok (.ireturn, 1) := by decide +kernel
theorem dX11_whyNoPlace_0 : decode cX11_whyNoPlace 0 = .ok (.iload_n 1, 1) := by decide +kernel
theorem dX11_whyNoPlace_1 : decode cX11_whyNoPlace 1 = .ok (.invokestatic 129, 3) := by decide +kernel
theorem dX11_whyNoPlace_4 : decode cX11_whyNoPlace 4 = .ok (.ifCond .ne 5, 3) := by decide +kernel
theorem dX11_whyNoPlace_7 : decode cX11_whyNoPlace 7 = .ok (.iconst (-1), 1) := by decide +kernel
theorem dX11_whyNoPlace_8 : decode cX11_whyNoPlace 8 = .ok (.ireturn, 1) := by decide +kernel
theorem dX11_whyNoPlace_9 : decode cX11_whyNoPlace 9 = .ok (.aload_n 0, 1) := by decide +kernel
theorem dX11_whyNoPlace_10 : decode cX11_whyNoPlace 10 = .ok (.getfield 99, 3) := by decide +kernel
theorem dX11_whyNoPlace_13 : decode cX11_whyNoPlace 13 = .ok (.iload_n 1, 1) := by decide +kernel
theorem dX11_whyNoPlace_14 : decode cX11_whyNoPlace 14 = .ok (.iaload, 1) := by decide +kernel
theorem dX11_whyNoPlace_15 : decode cX11_whyNoPlace 15 = .ok (.iconst (-1), 1) := by decide +kernel
theorem dX11_whyNoPlace_16 : decode cX11_whyNoPlace 16 = .ok (.if_icmp .ne 6, 3) := by decide +kernel
theorem dX11_whyNoPlace_19 : decode cX11_whyNoPlace 19 = .ok (.bipush (-11), 2) := by decide +kernel
theorem dX11_whyNoPlace_21 : decode cX11_whyNoPlace 21 = .ok (.ireturn, 1) := by decide +kernel
theorem dX11_whyNoPlace_22 : decode cX11_whyNoPlace 22 = .ok (.aload_n 0, 1) := by decide +kernel
theorem dX11_whyNoPlace_23 : decode cX11_whyNoPlace 23 = .ok (.getfield 99, 3) := by decide +kernel
theorem dX11_whyNoPlace_26 : decode cX11_whyNoPlace 26 = .ok (.iload_n 1, 1) := by decide +kernel
theorem dX11_whyNoPlace_27 : decode cX11_whyNoPlace 27 = .ok (.iaload, 1) := by decide +kernel
theorem dX11_whyNoPlace_28 : decode cX11_whyNoPlace 28 = .ok (.ifCond .lt 6, 3) := by decide +kernel
theorem dX11_whyNoPlace_31 : decode cX11_whyNoPlace 31 = .ok (.bipush (-12), 2) := by decide +kernel
theorem dX11_whyNoPlace_33 : decode cX11_whyNoPlace 33 = .ok (.ireturn, 1) := by decide +kernel
theorem dX11_whyNoPlace_34 : decode cX11_whyNoPlace 34 = .ok (.iload_n 2, 1) := by decide +kernel
theorem dX11_whyNoPlace_35 : decode cX11_whyNoPlace 35 = .ok (.iconst 0, 1) := by decide +kernel
theorem dX11_whyNoPlace_36 : decode cX11_whyNoPlace 36 = .ok (.aload_n 0, 1) := by decide +kernel
theorem dX11_whyNoPlace_37 : decode cX11_whyNoPlace 37 = .ok (.getfield 102, 3) := by decide +kernel
theorem dX11_whyNoPlace_40 : decode cX11_whyNoPlace 40 = .ok (.iload_n 1, 1) := by decide +kernel
theorem dX11_whyNoPlace_41 : decode cX11_whyNoPlace 41 = .ok (.iaload, 1) := by decide +kernel
theorem dX11_whyNoPlace_42 : decode cX11_whyNoPlace 42 = .ok (.iconst 1, 1) := by decide +kernel
theorem dX11_whyNoPlace_43 : decode cX11_whyNoPlace 43 = .ok (.isub, 1) := by decide +kernel
theorem dX11_whyNoPlace_44 : decode cX11_whyNoPlace 44 = .ok (.invokestatic 118, 3) := by decide +kernel
theorem dX11_whyNoPlace_47 : decode cX11_whyNoPlace 47 = .ok (.ifCond .eq 7, 3) := by decide +kernel
theorem dX11_whyNoPlace_50 : decode cX11_whyNoPlace 50 = .ok (.iconst 0, 1) := by decide +kernel
theorem dX11_whyNoPlace_51 : decode cX11_whyNoPlace 51 = .ok (.goto 5, 3) := by decide +kernel
theorem dX11_whyNoPlace_54 : decode cX11_whyNoPlace 54 = .ok (.bipush (-13), 2) := by decide +kernel
theorem dX11_whyNoPlace_56 : decode cX11_whyNoPlace 56 = .ok (.ireturn, 1) := by decide +kernel
theorem dX11_put_0 : decode cX11_put 0 = .ok (.aload_n 0, 1) := by decide +kernel
theorem dX11_put_1 : decode cX11_put 1 = .ok (.iload_n 1, 1) := by decide +kernel
theorem dX11_put_2 : decode cX11_put 2 = .ok (.iload_n 2, 1) := by decide +kernel
theorem dX11_put_3 : decode cX11_put 3 = .ok (.invokevirtual 399, 3) := by decide +kernel
theorem dX11_put_6 : decode cX11_put 6 = .ok (.istore 5, 2) := by decide +kernel
theorem dX11_put_8 : decode cX11_put 8 = .ok (.iload 5, 2) := by decide +kernel
theorem dX11_put_10 : decode cX11_put 10 = .ok (.ifCond .ge 6, 3) := by decide +kernel
theorem dX11_put_13 : decode cX11_put 13 = .ok (.iload 5, 2) := by decide +kernel
theorem dX11_put_15 : decode cX11_put 15 = .ok (.ireturn, 1) := by decide +kernel
theorem dX11_put_16 : decode cX11_put 16 = .ok (.bipush (-2), 2) := by decide +kernel
theorem dX11_put_18 : decode cX11_put 18 = .ok (.aload_n 0, 1) := by decide +kernel
theorem dX11_put_19 : decode cX11_put 19 = .ok (.getfield 99, 3) := by decide +kernel
theorem dX11_put_22 : decode cX11_put 22 = .ok (.iload_n 1, 1) := by decide +kernel
theorem dX11_put_23 : decode cX11_put 23 = .ok (.iaload, 1) := by decide +kernel
theorem dX11_put_24 : decode cX11_put 24 = .ok (.isub, 1) := by decide +kernel
theorem dX11_put_25 : decode cX11_put 25 = .ok (.istore 6, 2) := by decide +kernel
theorem dX11_put_27 : decode cX11_put 27 = .ok (.aload_n 0, 1) := by decide +kernel
theorem dX11_put_28 : decode cX11_put 28 = .ok (.getfield 105, 3) := by decide +kernel
theorem dX11_put_31 : decode cX11_put 31 = .ok (.bipush 60, 2) := by decide +kernel
theorem dX11_put_33 : decode cX11_put 33 = .ok (.iload_n 1, 1) := by decide +kernel
theorem dX11_put_34 : decode cX11_put 34 = .ok (.imul, 1) := by decide +kernel
theorem dX11_put_35 : decode cX11_put 35 = .ok (.iload_n 2, 1) := by decide +kernel
theorem dX11_put_36 : decode cX11_put 36 = .ok (.iadd, 1) := by decide +kernel
theorem dX11_put_37 : decode cX11_put 37 = .ok (.iload 6, 2) := by decide +kernel
theorem dX11_put_39 : decode cX11_put 39 = .ok (.ifCond .ne 10, 3) := by decide +kernel
theorem dX11_put_42 : decode cX11_put 42 = .ok (.lload_n 3, 1) := by decide +kernel
theorem dX11_put_43 : decode cX11_put 43 = .ok (.l2i, 1) := by decide +kernel
theorem dX11_put_44 : decode cX11_put 44 = .ok (.i2b, 1) := by decide +kernel
theorem dX11_put_45 : decode cX11_put 45 = .ok (.i2l, 1) := by decide +kernel
theorem dX11_put_46 : decode cX11_put 46 = .ok (.goto 49, 3) := by decide +kernel
theorem dX11_put_49 : decode cX11_put 49 = .ok (.iload 6, 2) := by decide +kernel
theorem dX11_put_51 : decode cX11_put 51 = .ok (.iconst 1, 1) := by decide +kernel
theorem dX11_put_52 : decode cX11_put 52 = .ok (.if_icmp .ne 10, 3) := by decide +kernel
theorem dX11_put_55 : decode cX11_put 55 = .ok (.lload_n 3, 1) := by decide +kernel
theorem dX11_put_56 : decode cX11_put 56 = .ok (.l2i, 1) := by decide +kernel
theorem dX11_put_57 : decode cX11_put 57 = .ok (.i2s, 1) := by decide +kernel
theorem dX11_put_58 : decode cX11_put 58 = .ok (.i2l, 1) := by decide +kernel
theorem dX11_put_59 : decode cX11_put 59 = .ok (.goto 36, 3) := by decide +kernel
theorem dX11_put_62 : decode cX11_put 62 = .ok (.iload 6, 2) := by decide +kernel
theorem dX11_put_64 : decode cX11_put 64 = .ok (.iconst 2, 1) := by decide +kernel
theorem dX11_put_65 : decode cX11_put 65 = .ok (.if_icmp .ne 9, 3) := by decide +kernel
theorem dX11_put_68 : decode cX11_put 68 = .ok (.lload_n 3, 1) := by decide +kernel
theorem dX11_put_69 : decode cX11_put 69 = .ok (.l2i, 1) := by decide +kernel
theorem dX11_put_70 : decode cX11_put 70 = .ok (.i2l, 1) := by decide +kernel
theorem dX11_put_71 : decode cX11_put 71 = .ok (.goto 24, 3) := by decide +kernel
theorem dX11_put_74 : decode cX11_put 74 = .ok (.iload 6, 2) := by decide +kernel
theorem dX11_put_76 : decode cX11_put 76 = .ok (.iconst 3, 1) := by decide +kernel
theorem dX11_put_77 : decode cX11_put 77 = .ok (.if_icmp .ne 7, 3) := by decide +kernel
theorem dX11_put_80 : decode cX11_put 80 = .ok (.lload_n 3, 1) := by decide +kernel
theorem dX11_put_81 : decode cX11_put 81 = .ok (.goto 14, 3) := by decide +kernel
theorem dX11_put_84 : decode cX11_put 84 = .ok (.lload_n 3, 1) := by decide +kernel
theorem dX11_put_85 : decode cX11_put 85 = .ok (.lconst 0, 1) := by decide +kernel
theorem dX11_put_86 : decode cX11_put 86 = .ok (.lcmp, 1) := by decide +kernel
theorem dX11_put_87 : decode cX11_put 87 = .ok (.ifCond .eq 7, 3) := by decide +kernel
theorem dX11_put_90 : decode cX11_put 90 = .ok (.lconst 1, 1) := by decide +kernel
theorem dX11_put_91 : decode cX11_put 91 = .ok (.goto 4, 3) := by decide +kernel
theorem dX11_put_94 : decode cX11_put 94 = .ok (.lconst 0, 1) := by decide +kernel
theorem dX11_put_95 : decode cX11_put 95 = .ok (.lastore, 1) := by decide +kernel
theorem dX11_put_96 : decode cX11_put 96 = .ok (.iconst 1, 1) := by decide +kernel
theorem dX11_put_97 : decode cX11_put 97 = .ok (.ireturn, 1) := by decide +kernel
theorem dX11_element_0 : decode cX11_element 0 = .ok (.aload_n 0, 1) := by decide +kernel
theorem dX11_element_1 : decode cX11_element 1 = .ok (.iload_n 1, 1) := by decide +kernel
theorem dX11_element_2 : decode cX11_element 2 = .ok (.iload_n 2, 1) := by decide +kernel
theorem dX11_element_3 : decode cX11_element 3 = .ok (.invokevirtual 399, 3) := by decide +kernel
theorem dX11_element_6 : decode cX11_element 6 = .ok (.ifCond .ge 9, 3) := by decide +kernel
theorem dX11_element_9 : decode cX11_element 9 = .ok (.ldc2_w 302, 3) := by decide +kernel
theorem dX11_element_12 : decode cX11_element 12 = .ok (.goto 14, 3) := by decide +kernel
theorem dX11_element_15 : decode cX11_element 15 = .ok (.aload_n 0, 1) := by decide +kernel
theorem dX11_element_16 : decode cX11_element 16 = .ok (.getfield 105, 3) := by decide +kernel
theorem dX11_element_19 : decode cX11_element 19 = .ok (.bipush 60, 2) := by decide +kernel
theorem dX11_element_21 : decode cX11_element 21 = .ok (.iload_n 1, 1) := by decide +kernel
theorem dX11_element_22 : decode cX11_element 22 = .ok (.imul, 1) := by decide +kernel
theorem dX11_element_23 : decode cX11_element 23 = .ok (.iload_n 2, 1) := by decide +kernel
theorem dX11_element_24 : decode cX11_element 24 = .ok (.iadd, 1) := by decide +kernel
theorem dX11_element_25 : decode cX11_element 25 = .ok (.laload, 1) := by decide +kernel
theorem dX11_element_26 : decode cX11_element 26 = .ok (.lreturn, 1) := by decide +kernel
theorem dX11_shift_0 : decode cX11_shift 0 = .ok (.iload_n 1, 1) := by decide +kernel
theorem dX11_shift_1 : decode cX11_shift 1 = .ok (.invokestatic 129, 3) := by decide +kernel
theorem dX11_shift_4 : decode cX11_shift 4 = .ok (.ifCond .eq 10, 3) := by decide +kernel
theorem dX11_shift_7 : decode cX11_shift 7 = .ok (.iload_n 3, 1) := by decide +kernel
theorem dX11_shift_8 : decode cX11_shift 8 = .ok (.invokestatic 129, 3) := by decide +kernel
theorem dX11_shift_11 : decode cX11_shift 11 = .ok (.ifCond .ne 5, 3) := by decide +kernel
theorem dX11_shift_14 : decode cX11_shift 14 = .ok (.iconst (-1), 1) := by decide +kernel
theorem dX11_shift_15 : decode cX11_shift 15 = .ok (.ireturn, 1) := by decide +kernel
theorem dX11_shift_16 : decode cX11_shift 16 = .ok (.aload_n 0, 1) := by decide +kernel
theorem dX11_shift_17 : decode cX11_shift 17 = .ok (.getfield 99, 3) := by decide +kernel
theorem dX11_shift_20 : decode cX11_shift 20 = .ok (.iload_n 1, 1) := by decide +kernel
theorem dX11_shift_21 : decode cX11_shift 21 = .ok (.iaload, 1) := by decide +kernel
theorem dX11_shift_22 : decode cX11_shift 22 = .ok (.iconst (-1), 1) := by decide +kernel
theorem dX11_shift_23 : decode cX11_shift 23 = .ok (.if_icmp .eq 13, 3) := by decide +kernel
theorem dX11_shift_26 : decode cX11_shift 26 = .ok (.aload_n 0, 1) := by decide +kernel
theorem dX11_shift_27 : decode cX11_shift 27 = .ok (.getfield 99, 3) := by decide +kernel
theorem dX11_shift_30 : decode cX11_shift 30 = .ok (.iload_n 3, 1) := by decide +kernel
theorem dX11_shift_31 : decode cX11_shift 31 = .ok (.iaload, 1) := by decide +kernel
theorem dX11_shift_32 : decode cX11_shift 32 = .ok (.iconst (-1), 1) := by decide +kernel
theorem dX11_shift_33 : decode cX11_shift 33 = .ok (.if_icmp .ne 6, 3) := by decide +kernel
theorem dX11_shift_36 : decode cX11_shift 36 = .ok (.bipush (-11), 2) := by decide +kernel
theorem dX11_shift_38 : decode cX11_shift 38 = .ok (.ireturn, 1) := by decide +kernel
theorem dX11_shift_39 : decode cX11_shift 39 = .ok (.aload_n 0, 1) := by decide +kernel
theorem dX11_shift_40 : decode cX11_shift 40 = .ok (.getfield 99, 3) := by decide +kernel
theorem dX11_shift_43 : decode cX11_shift 43 = .ok (.iload_n 1, 1) := by decide +kernel
theorem dX11_shift_44 : decode cX11_shift 44 = .ok (.iaload, 1) := by decide +kernel
theorem dX11_shift_45 : decode cX11_shift 45 = .ok (.ifCond .ge 18, 3) := by decide +kernel
theorem dX11_shift_48 : decode cX11_shift 48 = .ok (.aload_n 0, 1) := by decide +kernel
theorem dX11_shift_49 : decode cX11_shift 49 = .ok (.getfield 99, 3) := by decide +kernel
theorem dX11_shift_52 : decode cX11_shift 52 = .ok (.iload_n 1, 1) := by decide +kernel
theorem dX11_shift_53 : decode cX11_shift 53 = .ok (.iaload, 1) := by decide +kernel
theorem dX11_shift_54 : decode cX11_shift 54 = .ok (.aload_n 0, 1) := by decide +kernel
theorem dX11_shift_55 : decode cX11_shift 55 = .ok (.getfield 99, 3) := by decide +kernel
theorem dX11_shift_58 : decode cX11_shift 58 = .ok (.iload_n 3, 1) := by decide +kernel
theorem dX11_shift_59 : decode cX11_shift 59 = .ok (.iaload, 1) := by decide +kernel
theorem dX11_shift_60 : decode cX11_shift 60 = .ok (.if_icmp .eq 6, 3) := by decide +kernel
theorem dX11_shift_63 : decode cX11_shift 63 = .ok (.bipush (-12), 2) := by decide +kernel
theorem dX11_shift_65 : decode cX11_shift 65 = .ok (.ireturn, 1) := by decide +kernel
theorem dX11_shift_66 : decode cX11_shift 66 = .ok (.iload 5, 2) := by decide +kernel
theorem dX11_shift_68 : decode cX11_shift 68 = .ok (.ifCond .lt 39, 3) := by decide +kernel
theorem dX11_shift_71 : decode cX11_shift 71 = .ok (.iload_n 2, 1) := by decide +kernel
theorem dX11_shift_72 : decode cX11_shift 72 = .ok (.ifCond .lt 35, 3) := by decide +kernel
theorem dX11_shift_75 : decode cX11_shift 75 = .ok (.iload 4, 2) := by decide +kernel
theorem dX11_shift_77 : decode cX11_shift 77 = .ok (.ifCond .lt 30, 3) := by decide +kernel
theorem dX11_shift_80 : decode cX11_shift 80 = .ok (.iload_n 2, 1) := by decide +kernel
theorem dX11_shift_81 : decode cX11_shift 81 = .ok (.aload_n 0, 1) := by decide +kernel
theorem dX11_shift_82 : decode cX11_shift 82 = .ok (.getfield 102, 3) := by decide +kernel
theorem dX11_shift_85 : decode cX11_shift 85 = .ok (.iload_n 1, 1) := by decide +kernel
theorem dX11_shift_86 : decode cX11_shift 86 = .ok (.iaload, 1) := by decide +kernel
theorem dX11_shift_87 : decode cX11_shift 87 = .ok (.iload 5, 2) := by decide +kernel
theorem dX11_shift_89 : decode cX11_shift 89 = .ok (.isub, 1) := by decide +kernel
theorem dX11_shift_90 : decode cX11_shift 90 = .ok (.if_icmp .gt 17, 3) := by decide +kernel
theorem dX11_shift_93 : decode cX11_shift 93 = .ok (.iload 4, 2) := by decide +kernel
theorem dX11_shift_95 : decode cX11_shift 95 = .ok (.aload_n 0, 1) := by decide +kernel
theorem dX11_shift_96 : decode cX11_shift 96 = .ok (.getfield 102, 3) := by decide +kernel
theorem dX11_shift_99 : decode cX11_shift 99 = .ok (.iload_n 3, 1) := by decide +kernel
theorem dX11_shift_100 : decode cX11_shift 100 = .ok (.iaload, 1) := by decide +kernel
theorem dX11_shift_101 : decode cX11_shift 101 = .ok (.iload 5, 2) := by decide +kernel
theorem dX11_shift_103 : decode cX11_shift 103 = .ok (.isub, 1) := by decide +kernel
theorem dX11_shift_104 : decode cX11_shift 104 = .ok (.if_icmp .le 6, 3) := by decide +kernel
theorem dX11_shift_107 : decode cX11_shift 107 = .ok (.bipush (-13), 2) := by decide +kernel
theorem dX11_shift_109 : decode cX11_shift 109 = .ok (.ireturn, 1) := by decide +kernel
theorem dX11_shift_110 : decode cX11_shift 110 = .ok (.iconst 0, 1) := by decide +kernel
theorem dX11_shift_111 : decode cX11_shift 111 = .ok (.istore 6, 2) := by decide +kernel
theorem dX11_shift_113 : decode cX11_shift 113 = .ok (.iload 6, 2) := by decide +kernel
theorem dX11_shift_115 : decode cX11_shift 115 = .ok (.iload 5, 2) := by decide +kernel
theorem dX11_shift_117 : decode cX11_shift 117 = .ok (.if_icmp .ge 30, 3) := by decide +kernel
theorem dX11_shift_120 : decode cX11_shift 120 = .ok (.aload_n 0, 1) := by decide +kernel
theorem dX11_shift_121 : decode cX11_shift 121 = .ok (.getfield 109, 3) := by decide +kernel
theorem dX11_shift_124 : decode cX11_shift 124 = .ok (.iload 6, 2) := by decide +kernel
theorem dX11_shift_126 : decode cX11_shift 126 = .ok (.aload_n 0, 1) := by decide +kernel
theorem dX11_shift_127 : decode cX11_shift 127 = .ok (.getfield 105, 3) := by decide +kernel
theorem dX11_shift_130 : decode cX11_shift 130 = .ok (.bipush 60, 2) := by decide +kernel
theorem dX11_shift_132 : decode cX11_shift 132 = .ok (.iload_n 1, 1) := by decide +kernel
theorem dX11_shift_133 : decode cX11_shift 133 = .ok (.imul, 1) := by decide +kernel
theorem dX11_shift_134 : decode cX11_shift 134 = .ok (.iload_n 2, 1) := by decide +kernel
theorem dX11_shift_135 : decode cX11_shift 135 = .ok (.iadd, 1) := by decide +kernel
theorem dX11_shift_136 : decode cX11_shift 136 = .ok (.iload 6, 2) := by decide +kernel
theorem dX11_shift_138 : decode cX11_shift 138 = .ok (.iadd, 1) := by decide +kernel
theorem dX11_shift_139 : decode cX11_shift 139 = .ok (.laload, 1) := by decide +kernel
theorem dX11_shift_140 : decode cX11_shift 140 = .ok (.lastore, 1) := by decide +kernel
theorem dX11_shift_141 : decode cX11_shift 141 = .ok (.iinc 6 1, 3) := by decide +kernel
theorem dX11_shift_144 : decode cX11_shift 144 = .ok (.goto (-31), 3) := by decide +kernel
theorem dX11_shift_147 : decode cX11_shift 147 = .ok (.iconst 0, 1) := by decide +kernel
theorem dX11_shift_148 : decode cX11_shift 148 = .ok (.istore 6, 2) := by decide +kernel
theorem dX11_shift_150 : decode cX11_shift 150 = .ok (.iload 6, 2) := by decide +kernel
theorem dX11_shift_152 : decode cX11_shift 152 = .ok (.iload 5, 2) := by decide +kernel
theorem dX11_shift_154 : decode cX11_shift 154 = .ok (.if_icmp .ge 31, 3) := by decide +kernel
theorem dX11_shift_157 : decode cX11_shift 157 = .ok (.aload_n 0, 1) := by decide +kernel
theorem dX11_shift_158 : decode cX11_shift 158 = .ok (.getfield 105, 3) := by decide +kernel
theorem dX11_shift_161 : decode cX11_shift 161 = .ok (.bipush 60, 2) := by decide +kernel
theorem dX11_shift_163 : decode cX11_shift 163 = .ok (.iload_n 3, 1) := by decide +kernel
theorem dX11_shift_164 : decode cX11_shift 164 = .ok (.imul, 1) := by decide +kernel
theorem dX11_shift_165 : decode cX11_shift 165 = .ok (.iload 4, 2) := by decide +kernel
theorem dX11_shift_167 : decode cX11_shift 167 = .ok (.iadd, 1) := by decide +kernel
theorem dX11_shift_168 : decode cX11_shift 168 = .ok (.iload 6, 2) := by decide +kernel
theorem dX11_shift_170 : decode cX11_shift 170 = .ok (.iadd, 1) := by decide +kernel
theorem dX11_shift_171 : decode cX11_shift 171 = .ok (.aload_n 0, 1) := by decide +kernel
theorem dX11_shift_172 : decode cX11_shift 172 = .ok (.getfield 109, 3) := by decide +kernel
theorem dX11_shift_175 : decode cX11_shift 175 = .ok (.iload 6, 2) := by decide +kernel
theorem dX11_shift_177 : decode cX11_shift 177 = .ok (.laload, 1) := by decide +kernel
theorem dX11_shift_178 : decode cX11_shift 178 = .ok (.lastore, 1) := by decide +kernel
theorem dX11_shift_179 : decode cX11_shift 179 = .ok (.iinc 6 1, 3) := by decide +kernel
theorem dX11_shift_182 : decode cX11_shift 182 = .ok (.goto (-32), 3) := by decide +kernel
theorem dX11_shift_185 : decode cX11_shift 185 = .ok (.iload 5, 2) := by decide +kernel
theorem dX11_shift_187 : decode cX11_shift 187 = .ok (.ireturn, 1) := by decide +kernel
theorem dX11_taken_0 : decode cX11_taken 0 = .ok (.iload_n 1, 1) := by decide +kernel
theorem dX11_taken_1 : decode cX11_taken 1 = .ok (.invokestatic 129, 3) := by decide +kernel
theorem dX11_taken_4 : decode cX11_taken 4 = .ok (.ifCond .eq 13, 3) := by decide +kernel
theorem dX11_taken_7 : decode cX11_taken 7 = .ok (.iload_n 2, 1) := by decide +kernel
theorem dX11_taken_8 : decode cX11_taken 8 = .ok (.iconst 0, 1) := by decide +kernel
theorem dX11_taken_9 : decode cX11_taken 9 = .ok (.bipush 7, 2) := by decide +kernel
theorem dX11_taken_11 : decode cX11_taken 11 = .ok (.invokestatic 118, 3) := by decide +kernel
theorem dX11_taken_14 : decode cX11_taken 14 = .ok (.ifCond .ne 5, 3) := by decide +kernel
theorem dX11_taken_17 : decode cX11_taken 17 = .ok (.iconst (-1), 1) := by decide +kernel
theorem dX11_taken_18 : decode cX11_taken 18 = .ok (.ireturn, 1) := by decide +kernel
theorem dX11_taken_19 : decode cX11_taken 19 = .ok (.aload_n 0, 1) := by decide +kernel
theorem dX11_taken_20 : decode cX11_taken 20 = .ok (.getfield 99, 3) := by decide +kernel
theorem dX11_taken_23 : decode cX11_taken 23 = .ok (.iload_n 1, 1) := by decide +kernel
theorem dX11_taken_24 : decode cX11_taken 24 = .ok (.iaload, 1) := by decide +kernel
theorem dX11_taken_25 : decode cX11_taken 25 = .ok (.iconst (-1), 1) := by decide +kernel
theorem dX11_taken_26 : decode cX11_taken 26 = .ok (.if_icmp .ne 6, 3) := by decide +kernel
theorem dX11_taken_29 : decode cX11_taken 29 = .ok (.bipush (-11), 2) := by decide +kernel
theorem dX11_taken_31 : decode cX11_taken 31 = .ok (.ireturn, 1) := by decide +kernel
theorem dX11_taken_32 : decode cX11_taken 32 = .ok (.aload_n 0, 1) := by decide +kernel
theorem dX11_taken_33 : decode cX11_taken 33 = .ok (.getfield 99, 3) := by decide +kernel
theorem dX11_taken_36 : decode cX11_taken 36 = .ok (.iload_n 1, 1) := by decide +kernel
theorem dX11_taken_37 : decode cX11_taken 37 = .ok (.iaload, 1) := by decide +kernel
theorem dX11_taken_38 : decode cX11_taken 38 = .ok (.ifCond .lt 35, 3) := by decide +kernel
theorem dX11_taken_41 : decode cX11_taken 41 = .ok (.aload_n 0, 1) := by decide +kernel
theorem dX11_taken_42 : decode cX11_taken 42 = .ok (.getfield 93, 3) := by decide +kernel
theorem dX11_taken_45 : decode cX11_taken 45 = .ok (.aload_n 0, 1) := by decide +kernel
theorem dX11_taken_46 : decode cX11_taken 46 = .ok (.getfield 99, 3) := by decide +kernel
theorem dX11_taken_49 : decode cX11_taken 49 = .ok (.iload_n 1, 1) := by decide +kernel
theorem dX11_taken_50 : decode cX11_taken 50 = .ok (.iaload, 1) := by decide +kernel
theorem dX11_taken_51 : decode cX11_taken 51 = .ok (.iaload, 1) := by decide +kernel
theorem dX11_taken_52 : decode cX11_taken 52 = .ok (.iload_n 2, 1) := by decide +kernel
theorem dX11_taken_53 : decode cX11_taken 53 = .ok (.invokestatic 363, 3) := by decide +kernel
theorem dX11_taken_56 : decode cX11_taken 56 = .ok (.ifCond .eq 17, 3) := by decide +kernel
theorem dX11_taken_59 : decode cX11_taken 59 = .ok (.aload_n 0, 1) := by decide +kernel
theorem dX11_taken_60 : decode cX11_taken 60 = .ok (.getfield 93, 3) := by decide +kernel
theorem dX11_taken_63 : decode cX11_taken 63 = .ok (.aload_n 0, 1) := by decide +kernel
theorem dX11_taken_64 : decode cX11_taken 64 = .ok (.getfield 99, 3) := by decide +kernel
theorem dX11_taken_67 : decode cX11_taken 67 = .ok (.iload_n 1, 1) := by decide +kernel
theorem dX11_taken_68 : decode cX11_taken 68 = .ok (.iaload, 1) := by decide +kernel
theorem dX11_taken_69 : decode cX11_taken 69 = .ok (.iaload, 1) := by decide +kernel
theorem dX11_taken_70 : decode cX11_taken 70 = .ok (.goto 5, 3) := by decide +kernel
theorem dX11_taken_73 : decode cX11_taken 73 = .ok (.bipush (-12), 2) := by decide +kernel
theorem dX11_taken_75 : decode cX11_taken 75 = .ok (.ireturn, 1) := by decide +kernel
theorem dJ6_bitCount_0f7a4_0 : decode cJ6_bitCount_0f7a4 0 = .ok (.iload_n 0, 1) := by decide +kernel
theorem dJ6_bitCount_0f7a4_1 : decode cJ6_bitCount_0f7a4 1 = .ok (.iload_n 0, 1) := by decide +kernel
theorem dJ6_bitCount_0f7a4_2 : decode cJ6_bitCount_0f7a4 2 = .ok (.iconst 1, 1) := by decide +kernel
theorem dJ6_bitCount_0f7a4_3 : decode cJ6_bitCount_0f7a4 3 = .ok (.iushr, 1) := by decide +kernel
theorem dJ6_bitCount_0f7a4_4 : decode cJ6_bitCount_0f7a4 4 = .ok (.ldc_w 265, 3) := by decide +kernel
theorem dJ6_bitCount_0f7a4_7 : decode cJ6_bitCount_0f7a4 7 = .ok (.iand, 1) := by decide +kernel
theorem dJ6_bitCount_0f7a4_8 : decode cJ6_bitCount_0f7a4 8 = .ok (.isub, 1) := by decide +kernel
theorem dJ6_bitCount_0f7a4_9 : decode cJ6_bitCount_0f7a4 9 = .ok (.istore_n 0, 1) := by decide +kernel
theorem dJ6_bitCount_0f7a4_10 : decode cJ6_bitCount_0f7a4 10 = .ok (.iload_n 0, 1) := by decide +kernel
theorem dJ6_bitCount_0f7a4_11 : decode cJ6_bitCount_0f7a4 11 = .ok (.ldc_w 266, 3) := by decide +kernel
theorem dJ6_bitCount_0f7a4_14 : decode cJ6_bitCount_0f7a4 14 = .ok (.iand, 1) := by decide +kernel
theorem dJ6_bitCount_0f7a4_15 : decode cJ6_bitCount_0f7a4 15 = .ok (.iload_n 0, 1) := by decide +kernel
theorem dJ6_bitCount_0f7a4_16 : decode cJ6_bitCount_0f7a4 16 = .ok (.iconst 2, 1) := by decide +kernel
theorem dJ6_bitCount_0f7a4_17 : decode cJ6_bitCount_0f7a4 17 = .ok (.iushr, 1) := by decide +kernel
theorem dJ6_bitCount_0f7a4_18 : decode cJ6_bitCount_0f7a4 18 = .ok (.ldc_w 266, 3) := by decide +kernel
theorem dJ6_bitCount_0f7a4_21 : decode cJ6_bitCount_0f7a4 21 = .ok (.iand, 1) := by decide +kernel
theorem dJ6_bitCount_0f7a4_22 : decode cJ6_bitCount_0f7a4 22 = .ok (.iadd, 1) := by decide +kernel
theorem dJ6_bitCount_0f7a4_23 : decode cJ6_bitCount_0f7a4 23 = .ok (.istore_n 0, 1) := by decide +kernel
theorem dJ6_bitCount_0f7a4_24 : decode cJ6_bitCount_0f7a4 24 = .ok (.iload_n 0, 1) := by decide +kernel
theorem dJ6_bitCount_0f7a4_25 : decode cJ6_bitCount_0f7a4 25 = .ok (.iload_n 0, 1) := by decide +kernel
theorem dJ6_bitCount_0f7a4_26 : decode cJ6_bitCount_0f7a4 26 = .ok (.iconst 4, 1) := by decide +kernel
theorem dJ6_bitCount_0f7a4_27 : decode cJ6_bitCount_0f7a4 27 = .ok (.iushr, 1) := by decide +kernel
theorem dJ6_bitCount_0f7a4_28 : decode cJ6_bitCount_0f7a4 28 = .ok (.iadd, 1) := by decide +kernel
theorem dJ6_bitCount_0f7a4_29 : decode cJ6_bitCount_0f7a4 29 = .ok (.ldc_w 267, 3) := by decide +kernel
theorem dJ6_bitCount_0f7a4_32 : decode cJ6_bitCount_0f7a4 32 = .ok (.iand, 1) := by decide +kernel
theorem dJ6_bitCount_0f7a4_33 : decode cJ6_bitCount_0f7a4 33 = .ok (.istore_n 0, 1) := by decide +kernel
theorem dJ6_bitCount_0f7a4_34 : decode cJ6_bitCount_0f7a4 34 = .ok (.iload_n 0, 1) := by decide +kernel
theorem dJ6_bitCount_0f7a4_35 : decode cJ6_bitCount_0f7a4 35 = .ok (.iload_n 0, 1) := by decide +kernel
theorem dJ6_bitCount_0f7a4_36 : decode cJ6_bitCount_0f7a4 36 = .ok (.bipush 8, 2) := by decide +kernel
theorem dJ6_bitCount_0f7a4_38 : decode cJ6_bitCount_0f7a4 38 = .ok (.iushr, 1) := by decide +kernel
theorem dJ6_bitCount_0f7a4_39 : decode cJ6_bitCount_0f7a4 39 = .ok (.iadd, 1) := by decide +kernel
theorem dJ6_bitCount_0f7a4_40 : decode cJ6_bitCount_0f7a4 40 = .ok (.istore_n 0, 1) := by decide +kernel
theorem dJ6_bitCount_0f7a4_41 : decode cJ6_bitCount_0f7a4 41 = .ok (.iload_n 0, 1) := by decide +kernel
theorem dJ6_bitCount_0f7a4_42 : decode cJ6_bitCount_0f7a4 42 = .ok (.iload_n 0, 1) := by decide +kernel
theorem dJ6_bitCount_0f7a4_43 : decode cJ6_bitCount_0f7a4 43 = .ok (.bipush 16, 2) := by decide +kernel
theorem dJ6_bitCount_0f7a4_45 : decode cJ6_bitCount_0f7a4 45 = .ok (.iushr, 1) := by decide +kernel
theorem dJ6_bitCount_0f7a4_46 : decode cJ6_bitCount_0f7a4 46 = .ok (.iadd, 1) := by decide +kernel
theorem dJ6_bitCount_0f7a4_47 : decode cJ6_bitCount_0f7a4 47 = .ok (.istore_n 0, 1) := by decide +kernel
theorem dJ6_bitCount_0f7a4_48 : decode cJ6_bitCount_0f7a4 48 = .ok (.iload_n 0, 1) := by decide +kernel
theorem dJ6_bitCount_0f7a4_49 : decode cJ6_bitCount_0f7a4 49 = .ok (.bipush 63, 2) := by decide +kernel
theorem dJ6_bitCount_0f7a4_51 : decode cJ6_bitCount_0f7a4 51 = .ok (.iand, 1) := by decide +kernel
theorem dJ6_bitCount_0f7a4_52 : decode cJ6_bitCount_0f7a4 52 = .ok (.ireturn, 1) := by decide +kernel
