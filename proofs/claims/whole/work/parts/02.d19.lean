theorem dX11_which_108 : decode cX11_which 108 = .ok (.iload_n 3, 1) := by decide +kernel
theorem dX11_which_109 : decode cX11_which 109 = .ok (.ifCond .ne 7, 3) := by decide +kernel
theorem dX11_which_112 : decode cX11_which 112 = .ok (.iconst 0, 1) := by decide +kernel
theorem dX11_which_113 : decode cX11_which 113 = .ok (.goto 5, 3) := by decide +kernel
theorem dX11_which_116 : decode cX11_which 116 = .ok (.iload 5, 2) := by decide +kernel
theorem dX11_which_118 : decode cX11_which 118 = .ok (.ireturn, 1) := by decide +kernel
theorem dX11_first_0 : decode cX11_first 0 = .ok (.iload_n 1, 1) := by decide +kernel
theorem dX11_first_1 : decode cX11_first 1 = .ok (.iconst 0, 1) := by decide +kernel
theorem dX11_first_2 : decode cX11_first 2 = .ok (.iconst 1, 1) := by decide +kernel
theorem dX11_first_3 : decode cX11_first 3 = .ok (.invokestatic 118, 3) := by decide +kernel
theorem dX11_first_6 : decode cX11_first 6 = .ok (.ifCond .ne 5, 3) := by decide +kernel
theorem dX11_first_9 : decode cX11_first 9 = .ok (.iconst (-1), 1) := by decide +kernel
theorem dX11_first_10 : decode cX11_first 10 = .ok (.ireturn, 1) := by decide +kernel
theorem dX11_first_11 : decode cX11_first 11 = .ok (.aload_n 0, 1) := by decide +kernel
theorem dX11_first_12 : decode cX11_first 12 = .ok (.getfield 115, 3) := by decide +kernel
theorem dX11_first_15 : decode cX11_first 15 = .ok (.ifCond .ne 6, 3) := by decide +kernel
theorem dX11_first_18 : decode cX11_first 18 = .ok (.bipush (-2), 2) := by decide +kernel
theorem dX11_first_20 : decode cX11_first 20 = .ok (.ireturn, 1) := by decide +kernel
theorem dX11_first_21 : decode cX11_first 21 = .ok (.aload_n 0, 1) := by decide +kernel
theorem dX11_first_22 : decode cX11_first 22 = .ok (.invokevirtual 304, 3) := by decide +kernel
theorem dX11_first_25 : decode cX11_first 25 = .ok (.iconst 1, 1) := by decide +kernel
theorem dX11_first_26 : decode cX11_first 26 = .ok (.istore_n 2, 1) := by decide +kernel
theorem dX11_first_27 : decode cX11_first 27 = .ok (.iconst 2, 1) := by decide +kernel
theorem dX11_first_28 : decode cX11_first 28 = .ok (.istore_n 3, 1) := by decide +kernel
theorem dX11_first_29 : decode cX11_first 29 = .ok (.iload_n 3, 1) := by decide +kernel
theorem dX11_first_30 : decode cX11_first 30 = .ok (.aload_n 0, 1) := by decide +kernel
theorem dX11_first_31 : decode cX11_first 31 = .ok (.invokevirtual 262, 3) := by decide +kernel
theorem dX11_first_34 : decode cX11_first 34 = .ok (.if_icmp .gt 26, 3) := by decide +kernel
theorem dX11_first_37 : decode cX11_first 37 = .ok (.aload_n 0, 1) := by decide +kernel
theorem dX11_first_38 : decode cX11_first 38 = .ok (.getfield 84, 3) := by decide +kernel
theorem dX11_first_41 : decode cX11_first 41 = .ok (.iload_n 3, 1) := by decide +kernel
theorem dX11_first_42 : decode cX11_first 42 = .ok (.iaload, 1) := by decide +kernel
theorem dX11_first_43 : decode cX11_first 43 = .ok (.aload_n 0, 1) := by decide +kernel
theorem dX11_first_44 : decode cX11_first 44 = .ok (.getfield 84, 3) := by decide +kernel
theorem dX11_first_47 : decode cX11_first 47 = .ok (.iload_n 2, 1) := by decide +kernel
theorem dX11_first_48 : decode cX11_first 48 = .ok (.iaload, 1) := by decide +kernel
theorem dX11_first_49 : decode cX11_first 49 = .ok (.if_icmp .le 5, 3) := by decide +kernel
theorem dX11_first_52 : decode cX11_first 52 = .ok (.iload_n 3, 1) := by decide +kernel
theorem dX11_first_53 : decode cX11_first 53 = .ok (.istore_n 2, 1) := by decide +kernel
theorem dX11_first_54 : decode cX11_first 54 = .ok (.iinc 3 1, 3) := by decide +kernel
theorem dX11_first_57 : decode cX11_first 57 = .ok (.goto (-28), 3) := by decide +kernel
theorem dX11_first_60 : decode cX11_first 60 = .ok (.iload_n 1, 1) := by decide +kernel
theorem dX11_first_61 : decode cX11_first 61 = .ok (.ifCond .ne 7, 3) := by decide +kernel
theorem dX11_first_64 : decode cX11_first 64 = .ok (.iload_n 2, 1) := by decide +kernel
theorem dX11_first_65 : decode cX11_first 65 = .ok (.goto 9, 3) := by decide +kernel
theorem dX11_first_68 : decode cX11_first 68 = .ok (.aload_n 0, 1) := by decide +kernel
theorem dX11_first_69 : decode cX11_first 69 = .ok (.getfield 84, 3) := by decide +kernel
theorem dX11_first_72 : decode cX11_first 72 = .ok (.iload_n 2, 1) := by decide +kernel
theorem dX11_first_73 : decode cX11_first 73 = .ok (.iaload, 1) := by decide +kernel
theorem dX11_first_74 : decode cX11_first 74 = .ok (.ireturn, 1) := by decide +kernel
theorem dX11_chain_0 : decode cX11_chain 0 = .ok (.aload_n 0, 1) := by decide +kernel
theorem dX11_chain_1 : decode cX11_chain 1 = .ok (.iload_n 1, 1) := by decide +kernel
theorem dX11_chain_2 : decode cX11_chain 2 = .ok (.invokevirtual 149, 3) := by decide +kernel
theorem dX11_chain_5 : decode cX11_chain 5 = .ok (.ifCond .ne 5, 3) := by decide +kernel
theorem dX11_chain_8 : decode cX11_chain 8 = .ok (.iconst (-1), 1) := by decide +kernel
theorem dX11_chain_9 : decode cX11_chain 9 = .ok (.ireturn, 1) := by decide +kernel
theorem dX11_chain_10 : decode cX11_chain 10 = .ok (.iconst 1, 1) := by decide +kernel
theorem dX11_chain_11 : decode cX11_chain 11 = .ok (.iload_n 1, 1) := by decide +kernel
theorem dX11_chain_12 : decode cX11_chain 12 = .ok (.ishl, 1) := by decide +kernel
theorem dX11_chain_13 : decode cX11_chain 13 = .ok (.istore_n 2, 1) := by decide +kernel
theorem dX11_chain_14 : decode cX11_chain 14 = .ok (.iconst 0, 1) := by decide +kernel
theorem dX11_chain_15 : decode cX11_chain 15 = .ok (.istore_n 3, 1) := by decide +kernel
theorem dX11_chain_16 : decode cX11_chain 16 = .ok (.iload_n 3, 1) := by decide +kernel
theorem dX11_chain_17 : decode cX11_chain 17 = .ok (.iload_n 2, 1) := by decide +kernel
theorem dX11_chain_18 : decode cX11_chain 18 = .ok (.if_icmp .eq 51, 3) := by decide +kernel
theorem dX11_chain_21 : decode cX11_chain 21 = .ok (.iload_n 2, 1) := by decide +kernel
theorem dX11_chain_22 : decode cX11_chain 22 = .ok (.istore_n 3, 1) := by decide +kernel
theorem dX11_chain_23 : decode cX11_chain 23 = .ok (.iconst 0, 1) := by decide +kernel
theorem dX11_chain_24 : decode cX11_chain 24 = .ok (.istore 4, 2) := by decide +kernel
theorem dX11_chain_26 : decode cX11_chain 26 = .ok (.iload 4, 2) := by decide +kernel
theorem dX11_chain_28 : decode cX11_chain 28 = .ok (.aload_n 0, 1) := by decide +kernel
theorem dX11_chain_29 : decode cX11_chain 29 = .ok (.getfield 115, 3) := by decide +kernel
theorem dX11_chain_32 : decode cX11_chain 32 = .ok (.if_icmp .ge 34, 3) := by decide +kernel
theorem dX11_chain_35 : decode cX11_chain 35 = .ok (.iload_n 3, 1) := by decide +kernel
theorem dX11_chain_36 : decode cX11_chain 36 = .ok (.iload 4, 2) := by decide +kernel
theorem dX11_chain_38 : decode cX11_chain 38 = .ok (.ishr, 1) := by decide +kernel
theorem dX11_chain_39 : decode cX11_chain 39 = .ok (.iconst 1, 1) := by decide +kernel
theorem dX11_chain_40 : decode cX11_chain 40 = .ok (.iand, 1) := by decide +kernel
theorem dX11_chain_41 : decode cX11_chain 41 = .ok (.iconst 1, 1) := by decide +kernel
theorem dX11_chain_42 : decode cX11_chain 42 = .ok (.if_icmp .ne 18, 3) := by decide +kernel
theorem dX11_chain_45 : decode cX11_chain 45 = .ok (.iload_n 2, 1) := by decide +kernel
theorem dX11_chain_46 : decode cX11_chain 46 = .ok (.aload_n 0, 1) := by decide +kernel
theorem dX11_chain_47 : decode cX11_chain 47 = .ok (.getfield 24, 3) := by decide +kernel
theorem dX11_chain_50 : decode cX11_chain 50 = .ok (.iload 4, 2) := by decide +kernel
theorem dX11_chain_52 : decode cX11_chain 52 = .ok (.iaload, 1) := by decide +kernel
theorem dX11_chain_53 : decode cX11_chain 53 = .ok (.aload_n 0, 1) := by decide +kernel
theorem dX11_chain_54 : decode cX11_chain 54 = .ok (.invokevirtual 262, 3) := by decide +kernel
theorem dX11_chain_57 : decode cX11_chain 57 = .ok (.iand, 1) := by decide +kernel
theorem dX11_chain_58 : decode cX11_chain 58 = .ok (.ior, 1) := by decide +kernel
theorem dX11_chain_59 : decode cX11_chain 59 = .ok (.istore_n 2, 1) := by decide +kernel
theorem dX11_chain_60 : decode cX11_chain 60 = .ok (.iinc 4 1, 3) := by decide +kernel
theorem dX11_chain_63 : decode cX11_chain 63 = .ok (.goto (-37), 3) := by decide +kernel
theorem dX11_chain_66 : decode cX11_chain 66 = .ok (.goto (-50), 3) := by decide +kernel
theorem dX11_chain_69 : decode cX11_chain 69 = .ok (.iload_n 2, 1) := by decide +kernel
theorem dX11_chain_70 : decode cX11_chain 70 = .ok (.invokestatic 318, 3) := by decide +kernel
theorem dX11_chain_73 : decode cX11_chain 73 = .ok (.ireturn, 1) := by decide +kernel
theorem dX11_drawSet_0 : decode cX11_drawSet 0 = .ok (.iconst 0, 1) := by decide +kernel
theorem dX11_drawSet_1 : decode cX11_drawSet 1 = .ok (.istore_n 1, 1) := by decide +kernel
theorem dX11_drawSet_2 : decode cX11_drawSet 2 = .ok (.iconst 0, 1) := by decide +kernel
theorem dX11_drawSet_3 : decode cX11_drawSet 3 = .ok (.istore_n 2, 1) := by decide +kernel
theorem dX11_drawSet_4 : decode cX11_drawSet 4 = .ok (.iload_n 2, 1) := by decide +kernel
theorem dX11_drawSet_5 : decode cX11_drawSet 5 = .ok (.aload_n 0, 1) := by decide +kernel
theorem dX11_drawSet_6 : decode cX11_drawSet 6 = .ok (.getfield 115, 3) := by decide +kernel
theorem dX11_drawSet_9 : decode cX11_drawSet 9 = .ok (.if_icmp .ge 50, 3) := by decide +kernel
theorem dX11_drawSet_12 : decode cX11_drawSet 12 = .ok (.aload_n 0, 1) := by decide +kernel
theorem dX11_drawSet_13 : decode cX11_drawSet 13 = .ok (.aload_n 0, 1) := by decide +kernel
theorem dX11_drawSet_14 : decode cX11_drawSet 14 = .ok (.getfield 335, 3) := by decide +kernel
theorem dX11_drawSet_17 : decode cX11_drawSet 17 = .ok (.ldc_w 338, 3) := by decide +kernel
theorem dX11_drawSet_20 : decode cX11_drawSet 20 = .ok (.imul, 1) := by decide +kernel
theorem dX11_drawSet_21 : decode cX11_drawSet 21 = .ok (.sipush 12345, 3) := by decide +kernel
theorem dX11_drawSet_24 : decode cX11_drawSet 24 = .ok (.iadd, 1) := by decide +kernel
theorem dX11_drawSet_25 : decode cX11_drawSet 25 = .ok (.putfield 335, 3) := by decide +kernel
theorem dX11_drawSet_28 : decode cX11_drawSet 28 = .ok (.aload_n 0, 1) := by decide +kernel
theorem dX11_drawSet_29 : decode cX11_drawSet 29 = .ok (.getfield 335, 3) := by decide +kernel
theorem dX11_drawSet_32 : decode cX11_drawSet 32 = .ok (.bipush 8, 2) := by decide +kernel
theorem dX11_drawSet_34 : decode cX11_drawSet 34 = .ok (.iushr, 1) := by decide +kernel
theorem dX11_drawSet_35 : decode cX11_drawSet 35 = .ok (.bipush 12, 2) := by decide +kernel
theorem dX11_drawSet_37 : decode cX11_drawSet 37 = .ok (.irem, 1) := by decide +kernel
theorem dX11_drawSet_38 : decode cX11_drawSet 38 = .ok (.aload_n 0, 1) := by decide +kernel
theorem dX11_drawSet_39 : decode cX11_drawSet 39 = .ok (.getfield 15, 3) := by decide +kernel
theorem dX11_drawSet_42 : decode cX11_drawSet 42 = .ok (.iload_n 2, 1) := by decide +kernel
theorem dX11_drawSet_43 : decode cX11_drawSet 43 = .ok (.iaload, 1) := by decide +kernel
theorem dX11_drawSet_44 : decode cX11_drawSet 44 = .ok (.if_icmp .ge 9, 3) := by decide +kernel
theorem dX11_drawSet_47 : decode cX11_drawSet 47 = .ok (.iload_n 1, 1) := by decide +kernel
theorem dX11_drawSet_48 : decode cX11_drawSet 48 = .ok (.iconst 1, 1) := by decide +kernel
theorem dX11_drawSet_49 : decode cX11_drawSet 49 = .ok (.iload_n 2, 1) := by decide +kernel
theorem dX11_drawSet_50 : decode cX11_drawSet 50 = .ok (.ishl, 1) := by decide +kernel
theorem dX11_drawSet_51 : decode cX11_drawSet 51 = .ok (.ior, 1) := by decide +kernel
theorem dX11_drawSet_52 : decode cX11_drawSet 52 = .ok (.istore_n 1, 1) := by decide +kernel
theorem dX11_drawSet_53 : decode cX11_drawSet 53 = .ok (.iinc 2 1, 3) := by decide +kernel
theorem dX11_drawSet_56 : decode cX11_drawSet 56 = .ok (.goto (-52), 3) := by decide +kernel
theorem dX11_drawSet_59 : decode cX11_drawSet 59 = .ok (.iload_n 1, 1) := by decide +kernel
theorem dX11_drawSet_60 : decode cX11_drawSet 60 = .ok (.ireturn, 1) := by decide +kernel
theorem dX11_drawn_0 : decode cX11_drawn 0 = .ok (.iload_n 2, 1) := by decide +kernel
theorem dX11_drawn_1 : decode cX11_drawn 1 = .ok (.iconst 1, 1) := by decide +kernel
theorem dX11_drawn_2 : decode cX11_drawn 2 = .ok (.bipush 30, 2) := by decide +kernel
theorem dX11_drawn_4 : decode cX11_drawn 4 = .ok (.invokestatic 118, 3) := by decide +kernel
theorem dX11_drawn_7 : decode cX11_drawn 7 = .ok (.ifCond .eq 12, 3) := by decide +kernel
theorem dX11_drawn_10 : decode cX11_drawn 10 = .ok (.iload_n 3, 1) := by decide +kernel
theorem dX11_drawn_11 : decode cX11_drawn 11 = .ok (.iconst 0, 1) := by decide +kernel
theorem dX11_drawn_12 : decode cX11_drawn 12 = .ok (.iconst 1, 1) := by decide +kernel
theorem dX11_drawn_13 : decode cX11_drawn 13 = .ok (.invokestatic 118, 3) := by decide +kernel
theorem dX11_drawn_16 : decode cX11_drawn 16 = .ok (.ifCond .ne 5, 3) := by decide +kernel
theorem dX11_drawn_19 : decode cX11_drawn 19 = .ok (.iconst (-1), 1) := by decide +kernel
theorem dX11_drawn_20 : decode cX11_drawn 20 = .ok (.ireturn, 1) := by decide +kernel
theorem dX11_drawn_21 : decode cX11_drawn 21 = .ok (.aload_n 0, 1) := by decide +kernel
theorem dX11_drawn_22 : decode cX11_drawn 22 = .ok (.iload_n 1, 1) := by decide +kernel
theorem dX11_drawn_23 : decode cX11_drawn 23 = .ok (.putfield 335, 3) := by decide +kernel
theorem dX11_drawn_26 : decode cX11_drawn 26 = .ok (.iconst 0, 1) := by decide +kernel
theorem dX11_drawn_27 : decode cX11_drawn 27 = .ok (.istore 4, 2) := by decide +kernel
theorem dX11_drawn_29 : decode cX11_drawn 29 = .ok (.iconst 0, 1) := by decide +kernel
theorem dX11_drawn_30 : decode cX11_drawn 30 = .ok (.istore 5, 2) := by decide +kernel
theorem dX11_drawn_32 : decode cX11_drawn 32 = .ok (.iconst 0, 1) := by decide +kernel
theorem dX11_drawn_33 : decode cX11_drawn 33 = .ok (.istore 6, 2) := by decide +kernel
theorem dX11_drawn_35 : decode cX11_drawn 35 = .ok (.iload 6, 2) := by decide +kernel
theorem dX11_drawn_37 : decode cX11_drawn 37 = .ok (.iload_n 2, 1) := by decide +kernel
theorem dX11_drawn_38 : decode cX11_drawn 38 = .ok (.if_icmp .ge 36, 3) := by decide +kernel
theorem dX11_drawn_41 : decode cX11_drawn 41 = .ok (.aload_n 0, 1) := by decide +kernel
theorem dX11_drawn_42 : decode cX11_drawn 42 = .ok (.aload_n 0, 1) := by decide +kernel
theorem dX11_drawn_43 : decode cX11_drawn 43 = .ok (.invokevirtual 339, 3) := by decide +kernel
theorem dX11_drawn_46 : decode cX11_drawn 46 = .ok (.invokevirtual 287, 3) := by decide +kernel
theorem dX11_drawn_49 : decode cX11_drawn 49 = .ok (.iload 4, 2) := by decide +kernel
theorem dX11_drawn_51 : decode cX11_drawn 51 = .ok (.aload_n 0, 1) := by decide +kernel
theorem dX11_drawn_52 : decode cX11_drawn 52 = .ok (.invokevirtual 290, 3) := by decide +kernel
theorem dX11_drawn_55 : decode cX11_drawn 55 = .ok (.iadd, 1) := by decide +kernel
theorem dX11_drawn_56 : decode cX11_drawn 56 = .ok (.istore 4, 2) := by decide +kernel
theorem dX11_drawn_58 : decode cX11_drawn 58 = .ok (.aload_n 0, 1) := by decide +kernel
theorem dX11_drawn_59 : decode cX11_drawn 59 = .ok (.getfield 249, 3) := by decide +kernel
theorem dX11_drawn_62 : decode cX11_drawn 62 = .ok (.ifCond .ne 6, 3) := by decide +kernel
theorem dX11_drawn_65 : decode cX11_drawn 65 = .ok (.iinc 5 1, 3) := by decide +kernel
theorem dX11_drawn_68 : decode cX11_drawn 68 = .ok (.iinc 6 1, 3) := by decide +kernel
theorem dX11_drawn_71 : decode cX11_drawn 71 = .ok (.goto (-36), 3) := by decide +kernel
theorem dX11_drawn_74 : decode cX11_drawn 74 = .ok (.iload_n 3, 1) := by decide +kernel
theorem dX11_drawn_75 : decode cX11_drawn 75 = .ok (.ifCond .ne 8, 3) := by decide +kernel
theorem dX11_drawn_78 : decode cX11_drawn 78 = .ok (.iload 4, 2) := by decide +kernel
theorem dX11_drawn_80 : decode cX11_drawn 80 = .ok (.goto 5, 3) := by decide +kernel
theorem dX11_drawn_83 : decode cX11_drawn 83 = .ok (.iload 5, 2) := by decide +kernel
theorem dX11_drawn_85 : decode cX11_drawn 85 = .ok (.ireturn, 1) := by decide +kernel
theorem dX11_layDeed_0 : decode cX11_layDeed 0 = .ok (.aload_n 0, 1) := by decide +kernel
theorem dX11_layDeed_1 : decode cX11_layDeed 1 = .ok (.aload_n 0, 1) := by decide +kernel
theorem dX11_layDeed_2 : decode cX11_layDeed 2 = .ok (.getfield 87, 3) := by decide +kernel
theorem dX11_layDeed_5 : decode cX11_layDeed 5 = .ok (.iconst 0, 1) := by decide +kernel
theorem dX11_layDeed_6 : decode cX11_layDeed 6 = .ok (.iaload, 1) := by decide +kernel
theorem dX11_layDeed_7 : decode cX11_layDeed 7 = .ok (.putfield 237, 3) := by decide +kernel
theorem dX11_layDeed_10 : decode cX11_layDeed 10 = .ok (.aload_n 0, 1) := by decide +kernel
theorem dX11_layDeed_11 : decode cX11_layDeed 11 = .ok (.aload_n 0, 1) := by decide +kernel
theorem dX11_layDeed_12 : decode cX11_layDeed 12 = .ok (.getfield 87, 3) := by decide +kernel
theorem dX11_layDeed_15 : decode cX11_layDeed 15 = .ok (.iconst 1, 1) := by decide +kernel
theorem dX11_layDeed_16 : decode cX11_layDeed 16 = .ok (.iaload, 1) := by decide +kernel
theorem dX11_layDeed_17 : decode cX11_layDeed 17 = .ok (.putfield 240, 3) := by decide +kernel
theorem dX11_layDeed_20 : decode cX11_layDeed 20 = .ok (.aload_n 0, 1) := by decide +kernel
theorem dX11_layDeed_21 : decode cX11_layDeed 21 = .ok (.aload_n 0, 1) := by decide +kernel
theorem dX11_layDeed_22 : decode cX11_layDeed 22 = .ok (.getfield 87, 3) := by decide +kernel
theorem dX11_layDeed_25 : decode cX11_layDeed 25 = .ok (.iconst 2, 1) := by decide +kernel
theorem dX11_layDeed_26 : decode cX11_layDeed 26 = .ok (.iaload, 1) := by decide +kernel
theorem dX11_layDeed_27 : decode cX11_layDeed 27 = .ok (.putfield 243, 3) := by decide +kernel
theorem dX11_layDeed_30 : decode cX11_layDeed 30 = .ok (.aload_n 0, 1) := by decide +kernel
theorem dX11_layDeed_31 : decode cX11_layDeed 31 = .ok (.aload_n 0, 1) := by decide +kernel
theorem dX11_layDeed_32 : decode cX11_layDeed 32 = .ok (.getfield 87, 3) := by decide +kernel
theorem dX11_layDeed_35 : decode cX11_layDeed 35 = .ok (.iconst 3, 1) := by decide +kernel
theorem dX11_layDeed_36 : decode cX11_layDeed 36 = .ok (.iaload, 1) := by decide +kernel
theorem dX11_layDeed_37 : decode cX11_layDeed 37 = .ok (.putfield 246, 3) := by decide +kernel
theorem dX11_layDeed_40 : decode cX11_layDeed 40 = .ok (.aload_n 0, 1) := by decide +kernel
theorem dX11_layDeed_41 : decode cX11_layDeed 41 = .ok (.aload_n 0, 1) := by decide +kernel
theorem dX11_layDeed_42 : decode cX11_layDeed 42 = .ok (.getfield 87, 3) := by decide +kernel
theorem dX11_layDeed_45 : decode cX11_layDeed 45 = .ok (.iconst 4, 1) := by decide +kernel
theorem dX11_layDeed_46 : decode cX11_layDeed 46 = .ok (.iaload, 1) := by decide +kernel
theorem dX11_layDeed_47 : decode cX11_layDeed 47 = .ok (.putfield 249, 3) := by decide +kernel
theorem dX11_layDeed_50 : decode cX11_layDeed 50 = .ok (.aload_n 0, 1) := by decide +kernel
theorem dX11_layDeed_51 : decode cX11_layDeed 51 = .ok (.aload_n 0, 1) := by decide +kernel
theorem dX11_layDeed_52 : decode cX11_layDeed 52 = .ok (.getfield 87, 3) := by decide +kernel
theorem dX11_layDeed_55 : decode cX11_layDeed 55 = .ok (.iconst 5, 1) := by decide +kernel
theorem dX11_layDeed_56 : decode cX11_layDeed 56 = .ok (.iaload, 1) := by decide +kernel
theorem dX11_layDeed_57 : decode cX11_layDeed 57 = .ok (.putfield 252, 3) := by decide +kernel
theorem dX11_layDeed_60 : decode cX11_layDeed 60 = .ok (.return_, 1) := by decide +kernel
theorem dX11_takeDeed_0 : decode cX11_takeDeed 0 = .ok (.aload_n 0, 1) := by decide +kernel
theorem dX11_takeDeed_1 : decode cX11_takeDeed 1 = .ok (.getfield 87, 3) := by decide +kernel
theorem dX11_takeDeed_4 : decode cX11_takeDeed 4 = .ok (.iconst 0, 1) := by decide +kernel
theorem dX11_takeDeed_5 : decode cX11_takeDeed 5 = .ok (.aload_n 0, 1) := by decide +kernel
theorem dX11_takeDeed_6 : decode cX11_takeDeed 6 = .ok (.getfield 237, 3) := by decide +kernel
theorem dX11_takeDeed_9 : decode cX11_takeDeed 9 = .ok (.iastore, 1) := by decide +kernel
theorem dX11_takeDeed_10 : decode cX11_takeDeed 10 = .ok (.aload_n 0, 1) := by decide +kernel
theorem dX11_takeDeed_11 : decode cX11_takeDeed 11 = .ok (.getfield 87, 3) := by decide +kernel
theorem dX11_takeDeed_14 : decode cX11_takeDeed 14 = .ok (.iconst 1, 1) := by decide +kernel
theorem dX11_takeDeed_15 : decode cX11_takeDeed 15 = .ok (.aload_n 0, 1) := by decide +kernel
theorem dX11_takeDeed_16 : decode cX11_takeDeed 16 = .ok (.getfield 240, 3) := by decide +kernel
theorem dX11_takeDeed_19 : decode cX11_takeDeed 19 = .ok (.iastore, 1) := by decide +kernel
theorem dX11_takeDeed_20 : decode cX11_takeDeed 20 = .ok (.aload_n 0, 1) := by decide +kernel
theorem dX11_takeDeed_21 : decode cX11_takeDeed 21 = .ok (.getfield 87, 3) := by decide +kernel
theorem dX11_takeDeed_24 : decode cX11_takeDeed 24 = .ok (.iconst 2, 1) := by decide +kernel
theorem dX11_takeDeed_25 : decode cX11_takeDeed 25 = .ok (.aload_n 0, 1) := by decide +kernel
theorem dX11_takeDeed_26 : decode cX11_takeDeed 26 = .ok (.getfield 243, 3) := by decide +kernel
theorem dX11_takeDeed_29 : decode cX11_takeDeed 29 = .ok (.iastore, 1) := by decide +kernel
theorem dX11_takeDeed_30 : decode cX11_takeDeed 30 = .ok (.aload_n 0, 1) := by decide +kernel
theorem dX11_takeDeed_31 : decode cX11_takeDeed 31 = .ok (.getfield 87, 3) := by decide +kernel
theorem dX11_takeDeed_34 : decode cX11_takeDeed 34 = .ok (.iconst 3, 1) := by decide +kernel
theorem dX11_takeDeed_35 : decode cX11_takeDeed 35 = .ok (.aload_n 0, 1) := by decide +kernel
theorem dX11_takeDeed_36 : decode cX11_takeDeed 36 = .ok (.getfield 246, 3) := by decide +kernel
theorem dX11_takeDeed_39 : decode cX11_takeDeed 39 = .ok (.iastore, 1) := by decide +kernel
theorem dX11_takeDeed_40 : decode cX11_takeDeed 40 = .ok (.aload_n 0, 1) := by decide +kernel
theorem dX11_takeDeed_41 : decode cX11_takeDeed 41 = .ok (.getfield 87, 3) := by decide +kernel
theorem dX11_takeDeed_44 : decode cX11_takeDeed 44 = .ok (.iconst 4, 1) := by decide +kernel
theorem dX11_takeDeed_45 : decode cX11_takeDeed 45 = .ok (.aload_n 0, 1) := by decide +kernel
theorem dX11_takeDeed_46 : decode cX11_takeDeed 46 = .ok (.getfield 249, 3) := by decide +kernel
theorem dX11_takeDeed_49 : decode cX11_takeDeed 49 = .ok (.iastore, 1) := by decide +kernel
theorem dX11_takeDeed_50 : decode cX11_takeDeed 50 = .ok (.aload_n 0, 1) := by decide +kernel
theorem dX11_takeDeed_51 : decode cX11_takeDeed 51 = .ok (.getfield 87, 3) := by decide +kernel
theorem dX11_takeDeed_54 : decode cX11_takeDeed 54 = .ok (.iconst 5, 1) := by decide +kernel
theorem dX11_takeDeed_55 : decode cX11_takeDeed 55 = .ok (.aload_n 0, 1) := by decide +kernel
theorem dX11_takeDeed_56 : decode cX11_takeDeed 56 = .ok (.getfield 252, 3) := by decide +kernel
theorem dX11_takeDeed_59 : decode cX11_takeDeed 59 = .ok (.iastore, 1) := by decide +kernel
theorem dX11_takeDeed_60 : decode cX11_takeDeed 60 = .ok (.return_, 1) := by decide +kernel
theorem dX11_lock_0 : decode cX11_lock 0 = .ok (.aload_n 0, 1) := by decide +kernel
theorem dX11_lock_1 : decode cX11_lock 1 = .ok (.getfield 87, 3) := by decide +kernel
theorem dX11_lock_4 : decode cX11_lock 4 = .ok (.bipush 6, 2) := by decide +kernel
theorem dX11_lock_6 : decode cX11_lock 6 = .ok (.iaload, 1) := by decide +kernel
theorem dX11_lock_7 : decode cX11_lock 7 = .ok (.ifCond .lt 6, 3) := by decide +kernel
theorem dX11_lock_10 : decode cX11_lock 10 = .ok (.bipush (-5), 2) := by decide +kernel
theorem dX11_lock_12 : decode cX11_lock 12 = .ok (.ireturn, 1) := by decide +kernel
theorem dX11_lock_13 : decode cX11_lock 13 = .ok (.aload_n 0, 1) := by decide +kernel
theorem dX11_lock_14 : decode cX11_lock 14 = .ok (.iload_n 1, 1) := by decide +kernel
theorem dX11_lock_15 : decode cX11_lock 15 = .ok (.putfield 335, 3) := by decide +kernel
theorem dX11_lock_18 : decode cX11_lock 18 = .ok (.aload_n 0, 1) := by decide +kernel
theorem dX11_lock_19 : decode cX11_lock 19 = .ok (.aload_n 0, 1) := by decide +kernel
theorem dX11_lock_20 : decode cX11_lock 20 = .ok (.invokevirtual 339, 3) := by decide +kernel
theorem dX11_lock_23 : decode cX11_lock 23 = .ok (.invokevirtual 277, 3) := by decide +kernel
theorem dX11_lock_26 : decode cX11_lock 26 = .ok (.aload_n 0, 1) := by decide +kernel
theorem dX11_lock_27 : decode cX11_lock 27 = .ok (.invokevirtual 342, 3) := by decide +kernel
theorem dX11_lock_30 : decode cX11_lock 30 = .ok (.aload_n 0, 1) := by decide +kernel
theorem dX11_lock_31 : decode cX11_lock 31 = .ok (.getfield 87, 3) := by decide +kernel
theorem dX11_lock_34 : decode cX11_lock 34 = .ok (.bipush 6, 2) := by decide +kernel
theorem dX11_lock_36 : decode cX11_lock 36 = .ok (.iconst 0, 1) := by decide +kernel
theorem dX11_lock_37 : decode cX11_lock 37 = .ok (.iastore, 1) := by decide +kernel
theorem dX11_lock_38 : decode cX11_lock 38 = .ok (.aload_n 0, 1) := by decide +kernel
theorem dX11_lock_39 : decode cX11_lock 39 = .ok (.getfield 87, 3) := by decide +kernel
theorem dX11_lock_42 : decode cX11_lock 42 = .ok (.iconst 0, 1) := by decide +kernel
theorem dX11_lock_43 : decode cX11_lock 43 = .ok (.iaload, 1) := by decide +kernel
theorem dX11_lock_44 : decode cX11_lock 44 = .ok (.invokestatic 318, 3) := by decide +kernel
theorem dX11_lock_47 : decode cX11_lock 47 = .ok (.ireturn, 1) := by decide +kernel
theorem dX11_on_0 : decode cX11_on 0 = .ok (.aload_n 0, 1) := by decide +kernel
theorem dX11_on_1 : decode cX11_on 1 = .ok (.getfield 87, 3) := by decide +kernel
theorem dX11_on_4 : decode cX11_on 4 = .ok (.bipush 6, 2) := by decide +kernel
theorem dX11_on_6 : decode cX11_on 6 = .ok (.iaload, 1) := by decide +kernel
theorem dX11_on_7 : decode cX11_on 7 = .ok (.ifCond .ge 6, 3) := by decide +kernel
theorem dX11_on_10 : decode cX11_on 10 = .ok (.bipush (-5), 2) := by decide +kernel
theorem dX11_on_12 : decode cX11_on 12 = .ok (.ireturn, 1) := by decide +kernel
theorem dX11_on_13 : decode cX11_on 13 = .ok (.aload_n 0, 1) := by decide +kernel
theorem dX11_on_14 : decode cX11_on 14 = .ok (.invokevirtual 345, 3) := by decide +kernel
theorem dX11_on_17 : decode cX11_on 17 = .ok (.aload_n 0, 1) := by decide +kernel
theorem dX11_on_18 : decode cX11_on 18 = .ok (.aload_n 0, 1) := by decide +kernel
theorem dX11_on_19 : decode cX11_on 19 = .ok (.getfield 87, 3) := by decide +kernel
theorem dX11_on_22 : decode cX11_on 22 = .ok (.bipush 6, 2) := by decide +kernel
theorem dX11_on_24 : decode cX11_on 24 = .ok (.iaload, 1) := by decide +kernel
theorem dX11_on_25 : decode cX11_on 25 = .ok (.invokevirtual 281, 3) := by decide +kernel
theorem dX11_on_28 : decode cX11_on 28 = .ok (.aload_n 0, 1) := by decide +kernel
theorem dX11_on_29 : decode cX11_on 29 = .ok (.getfield 87, 3) := by decide +kernel
theorem dX11_on_32 : decode cX11_on 32 = .ok (.bipush 6, 2) := by decide +kernel
theorem dX11_on_34 : decode cX11_on 34 = .ok (.iaload, 1) := by decide +kernel
theorem dX11_on_35 : decode cX11_on 35 = .ok (.bipush 6, 2) := by decide +kernel
theorem dX11_on_37 : decode cX11_on 37 = .ok (.if_icmp .ge 24, 3) := by decide +kernel
theorem dX11_on_40 : decode cX11_on 40 = .ok (.aload_n 0, 1) := by decide +kernel
theorem dX11_on_41 : decode cX11_on 41 = .ok (.dup, 1) := by decide +kernel
theorem dX11_on_42 : decode cX11_on 42 = .ok (.getfield 246, 3) := by decide +kernel
theorem dX11_on_45 : decode cX11_on 45 = .ok (.aload_n 0, 1) := by decide +kernel
theorem dX11_on_46 : decode cX11_on 46 = .ok (.getfield 30, 3) := by decide +kernel
theorem dX11_on_49 : decode cX11_on 49 = .ok (.aload_n 0, 1) := by decide +kernel
theorem dX11_on_50 : decode cX11_on 50 = .ok (.getfield 87, 3) := by decide +kernel
theorem dX11_on_53 : decode cX11_on 53 = .ok (.bipush 6, 2) := by decide +kernel
theorem dX11_on_55 : decode cX11_on 55 = .ok (.iaload, 1) := by decide +kernel
theorem dX11_on_56 : decode cX11_on 56 = .ok (.iaload, 1) := by decide +kernel
theorem dX11_on_57 : decode cX11_on 57 = .ok (.iadd, 1) := by decide +kernel
theorem dX11_on_58 : decode cX11_on 58 = .ok (.putfield 246, 3) := by decide +kernel
theorem dX11_on_61 : decode cX11_on 61 = .ok (.aload_n 0, 1) := by decide +kernel
theorem dX11_on_62 : decode cX11_on 62 = .ok (.invokevirtual 342, 3) := by decide +kernel
theorem dX11_on_65 : decode cX11_on 65 = .ok (.aload_n 0, 1) := by decide +kernel
theorem dX11_on_66 : decode cX11_on 66 = .ok (.getfield 87, 3) := by decide +kernel
theorem dX11_on_69 : decode cX11_on 69 = .ok (.bipush 6, 2) := by decide +kernel
theorem dX11_on_71 : decode cX11_on 71 = .ok (.iaload, 1) := by decide +kernel
theorem dX11_on_72 : decode cX11_on 72 = .ok (.bipush 6, 2) := by decide +kernel
theorem dX11_on_74 : decode cX11_on 74 = .ok (.if_icmp .ge 22, 3) := by decide +kernel
theorem dX11_on_77 : decode cX11_on 77 = .ok (.aload_n 0, 1) := by decide +kernel
theorem dX11_on_78 : decode cX11_on 78 = .ok (.getfield 87, 3) := by decide +kernel
theorem dX11_on_81 : decode cX11_on 81 = .ok (.bipush 6, 2) := by decide +kernel
theorem dX11_on_83 : decode cX11_on 83 = .ok (.dup2, 1) := by decide +kernel
theorem dX11_on_84 : decode cX11_on 84 = .ok (.iaload, 1) := by decide +kernel
theorem dX11_on_85 : decode cX11_on 85 = .ok (.iconst 1, 1) := by decide +kernel
theorem dX11_on_86 : decode cX11_on 86 = .ok (.iadd, 1) := by decide +kernel
theorem dX11_on_87 : decode cX11_on 87 = .ok (.iastore, 1) := by decide +kernel
theorem dX11_on_88 : decode cX11_on 88 = .ok (.aload_n 0, 1) := by decide +kernel
theorem dX11_on_89 : decode cX11_on 89 = .ok (.getfield 87, 3) := by decide +kernel
theorem dX11_on_92 : decode cX11_on 92 = .ok (.bipush 6, 2) := by decide +kernel
theorem dX11_on_94 : decode cX11_on 94 = .ok (.iaload, 1) := by decide +kernel
theorem dX11_on_95 : decode cX11_on 95 = .ok (.ireturn, 1) := by decide +kernel
theorem dX11_on_96 : decode cX11_on 96 = .ok (.aload_n 0, 1) := by decide +kernel
theorem dX11_on_97 : decode cX11_on 97 = .ok (.getfield 87, 3) := by decide +kernel
theorem dX11_on_100 : decode cX11_on 100 = .ok (.bipush 6, 2) := by decide +kernel
theorem dX11_on_102 : decode cX11_on 102 = .ok (.bipush (-2), 2) := by decide +kernel
theorem dX11_on_104 : decode cX11_on 104 = .ok (.iastore, 1) := by decide +kernel
theorem dX11_on_105 : decode cX11_on 105 = .ok (.aload_n 0, 1) := by decide +kernel
theorem dX11_on_106 : decode cX11_on 106 = .ok (.getfield 87, 3) := by decide +kernel
theorem dX11_on_109 : decode cX11_on 109 = .ok (.bipush 7, 2) := by decide +kernel
theorem dX11_on_111 : decode cX11_on 111 = .ok (.dup2, 1) := by decide +kernel
theorem dX11_on_112 : decode cX11_on 112 = .ok (.iaload, 1) := by decide +kernel
theorem dX11_on_113 : decode cX11_on 113 = .ok (.iconst 1, 1) := by decide +kernel
theorem dX11_on_114 : decode cX11_on 114 = .ok (.iadd, 1) := by decide +kernel
theorem dX11_on_115 : decode cX11_on 115 = .ok (.iastore, 1) := by decide +kernel
theorem dX11_on_116 : decode cX11_on 116 = .ok (.aload_n 0, 1) := by decide +kernel
theorem dX11_on_117 : decode cX11_on 117 = .ok (.getfield 87, 3) := by decide +kernel
theorem dX11_on_120 : decode cX11_on 120 = .ok (.bipush 8, 2) := by decide +kernel
theorem dX11_on_122 : decode cX11_on 122 = .ok (.dup2, 1) := by decide +kernel
theorem dX11_on_123 : decode cX11_on 123 = .ok (.iaload, 1) := by decide +kernel
theorem dX11_on_124 : decode cX11_on 124 = .ok (.aload_n 0, 1) := by decide +kernel
theorem dX11_on_125 : decode cX11_on 125 = .ok (.invokevirtual 290, 3) := by decide +kernel
theorem dX11_on_128 : decode cX11_on 128 = .ok (.iadd, 1) := by decide +kernel
theorem dX11_on_129 : decode cX11_on 129 = .ok (.iastore, 1) := by decide +kernel
theorem dX11_on_130 : decode cX11_on 130 = .ok (.bipush (-2), 2) := by decide +kernel
theorem dX11_on_132 : decode cX11_on 132 = .ok (.ireturn, 1) := by decide +kernel
theorem dX11_led_0 : decode cX11_led 0 = .ok (.iload_n 1, 1) := by decide +kernel
theorem dX11_led_1 : decode cX11_led 1 = .ok (.tableswitch 95 0 6 #[43, 50, 57, 64, 71, 79, 87], 43) := by decide +kernel
theorem dX11_led_44 : decode cX11_led 44 = .ok (.aload_n 0, 1) := by decide +kernel
theorem dX11_led_45 : decode cX11_led 45 = .ok (.getfield 87, 3) := by decide +kernel
theorem dX11_led_48 : decode cX11_led 48 = .ok (.iconst 3, 1) := by decide +kernel
theorem dX11_led_49 : decode cX11_led 49 = .ok (.iaload, 1) := by decide +kernel
theorem dX11_led_50 : decode cX11_led 50 = .ok (.ireturn, 1) := by decide +kernel
theorem dX11_led_51 : decode cX11_led 51 = .ok (.aload_n 0, 1) := by decide +kernel
theorem dX11_led_52 : decode cX11_led 52 = .ok (.getfield 87, 3) := by decide +kernel
theorem dX11_led_55 : decode cX11_led 55 = .ok (.iconst 4, 1) := by decide +kernel
theorem dX11_led_56 : decode cX11_led 56 = .ok (.iaload, 1) := by decide +kernel
theorem dX11_led_57 : decode cX11_led 57 = .ok (.ireturn, 1) := by decide +kernel
theorem dX11_led_58 : decode cX11_led 58 = .ok (.aload_n 0, 1) := by decide +kernel
theorem dX11_led_59 : decode cX11_led 59 = .ok (.getfield 87, 3) := by decide +kernel
theorem dX11_led_62 : decode cX11_led 62 = .ok (.iconst 5, 1) := by decide +kernel
theorem dX11_led_63 : decode cX11_led 63 = .ok (.iaload, 1) := by decide +kernel
theorem dX11_led_64 : decode cX11_led 64 = .ok (.ireturn, 1) := by decide +kernel
theorem dX11_led_65 : decode cX11_led 65 = .ok (.aload_n 0, 1) := by decide +kernel
theorem dX11_led_66 : decode cX11_led 66 = .ok (.getfield 87, 3) := by decide +kernel
theorem dX11_led_69 : decode cX11_led 69 = .ok (.iconst 2, 1) := by decide +kernel
theorem dX11_led_70 : decode cX11_led 70 = .ok (.iaload, 1) := by decide +kernel
theorem dX11_led_71 : decode cX11_led 71 = .ok (.ireturn, 1) := by decide +kernel
theorem dX11_led_72 : decode cX11_led 72 = .ok (.aload_n 0, 1) := by decide +kernel
theorem dX11_led_73 : decode cX11_led 73 = .ok (.getfield 87, 3) := by decide +kernel
theorem dX11_led_76 : decode cX11_led 76 = .ok (.bipush 7, 2) := by decide +kernel
theorem dX11_led_78 : decode cX11_led 78 = .ok (.iaload, 1) := by decide +kernel
theorem dX11_led_79 : decode cX11_led 79 = .ok (.ireturn, 1) := by decide +kernel
theorem dX11_led_80 : decode cX11_led 80 = .ok (.aload_n 0, 1) := by decide +kernel
theorem dX11_led_81 : decode cX11_led 81 = .ok (.getfield 87, 3) := by decide +kernel
theorem dX11_led_84 : decode cX11_led 84 = .ok (.bipush 8, 2) := by decide +kernel
theorem dX11_led_86 : decode cX11_led 86 = .ok (.iaload, 1) := by decide +kernel
theorem dX11_led_87 : decode cX11_led 87 = .ok (.ireturn, 1) := by decide +kernel
theorem dX11_led_88 : decode cX11_led 88 = .ok (.aload_n 0, 1) := by decide +kernel
theorem dX11_led_89 : decode cX11_led 89 = .ok (.getfield 87, 3) := by decide +kernel
theorem dX11_led_92 : decode cX11_led 92 = .ok (.bipush 6, 2) := by decide +kernel
theorem dX11_led_94 : decode cX11_led 94 = .ok (.iaload, 1) := by decide +kernel
theorem dX11_led_95 : decode cX11_led 95 = .ok (.ireturn, 1) := by decide +kernel
theorem dX11_led_96 : decode cX11_led 96 = .ok (.iconst (-1), 1) := by decide +kernel
theorem dX11_led_97 : decode cX11_led 97 = .ok (.ireturn, 1) := by decide +kernel
theorem dX11_image_0 : decode cX11_image 0 = .ok (.aload_n 0, 1) := by decide +kernel
theorem dX11_image_1 : decode cX11_image 1 = .ok (.iconst 1, 1) := by decide +kernel
theorem dX11_image_2 : decode cX11_image 2 = .ok (.putfield 348, 3) := by decide +kernel
theorem dX11_image_5 : decode cX11_image 5 = .ok (.iconst 0, 1) := by decide +kernel
