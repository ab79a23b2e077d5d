theorem dX8_init_0 : decode cX8_init 0 = .ok (.aload_n 0, 1) := by decide +kernel
theorem dX8_init_1 : decode cX8_init 1 = .ok (.invokespecial 3, 3) := by decide +kernel
theorem dX8_init_4 : decode cX8_init 4 = .ok (.aload_n 0, 1) := by decide +kernel
theorem dX8_init_5 : decode cX8_init 5 = .ok (.sipush 256, 3) := by decide +kernel
theorem dX8_init_8 : decode cX8_init 8 = .ok (.newarray .int, 2) := by decide +kernel
theorem dX8_init_10 : decode cX8_init 10 = .ok (.putfield 11, 3) := by decide +kernel
theorem dX8_init_13 : decode cX8_init 13 = .ok (.aload_n 0, 1) := by decide +kernel
theorem dX8_init_14 : decode cX8_init 14 = .ok (.sipush 256, 3) := by decide +kernel
theorem dX8_init_17 : decode cX8_init 17 = .ok (.newarray .int, 2) := by decide +kernel
theorem dX8_init_19 : decode cX8_init 19 = .ok (.putfield 15, 3) := by decide +kernel
theorem dX8_init_22 : decode cX8_init 22 = .ok (.aload_n 0, 1) := by decide +kernel
theorem dX8_init_23 : decode cX8_init 23 = .ok (.sipush 256, 3) := by decide +kernel
theorem dX8_init_26 : decode cX8_init 26 = .ok (.newarray .int, 2) := by decide +kernel
theorem dX8_init_28 : decode cX8_init 28 = .ok (.putfield 18, 3) := by decide +kernel
theorem dX8_init_31 : decode cX8_init 31 = .ok (.aload_n 0, 1) := by decide +kernel
theorem dX8_init_32 : decode cX8_init 32 = .ok (.sipush 256, 3) := by decide +kernel
theorem dX8_init_35 : decode cX8_init 35 = .ok (.newarray .long, 2) := by decide +kernel
theorem dX8_init_37 : decode cX8_init 37 = .ok (.putfield 21, 3) := by decide +kernel
theorem dX8_init_40 : decode cX8_init 40 = .ok (.aload_n 0, 1) := by decide +kernel
theorem dX8_init_41 : decode cX8_init 41 = .ok (.lconst 1, 1) := by decide +kernel
theorem dX8_init_42 : decode cX8_init 42 = .ok (.putfield 25, 3) := by decide +kernel
theorem dX8_init_45 : decode cX8_init 45 = .ok (.aload_n 0, 1) := by decide +kernel
theorem dX8_init_46 : decode cX8_init 46 = .ok (.aload_n 1, 1) := by decide +kernel
theorem dX8_init_47 : decode cX8_init 47 = .ok (.putfield 29, 3) := by decide +kernel
theorem dX8_init_50 : decode cX8_init 50 = .ok (.aload_n 0, 1) := by decide +kernel
theorem dX8_init_51 : decode cX8_init 51 = .ok (.new 33, 3) := by decide +kernel
theorem dX8_init_54 : decode cX8_init 54 = .ok (.dup, 1) := by decide +kernel
theorem dX8_init_55 : decode cX8_init 55 = .ok (.aload_n 1, 1) := by decide +kernel
theorem dX8_init_56 : decode cX8_init 56 = .ok (.invokespecial 35, 3) := by decide +kernel
theorem dX8_init_59 : decode cX8_init 59 = .ok (.putfield 38, 3) := by decide +kernel
theorem dX8_init_62 : decode cX8_init 62 = .ok (.return_, 1) := by decide +kernel
theorem dX8_refresh_0 : decode cX8_refresh 0 = .ok (.aload_n 0, 1) := by decide +kernel
theorem dX8_refresh_1 : decode cX8_refresh 1 = .ok (.getfield 42, 3) := by decide +kernel
theorem dX8_refresh_4 : decode cX8_refresh 4 = .ok (.aload_n 0, 1) := by decide +kernel
theorem dX8_refresh_5 : decode cX8_refresh 5 = .ok (.getfield 29, 3) := by decide +kernel
theorem dX8_refresh_8 : decode cX8_refresh 8 = .ok (.getfield 46, 3) := by decide +kernel
theorem dX8_refresh_11 : decode cX8_refresh 11 = .ok (.if_icmp .ne 4, 3) := by decide +kernel
theorem dX8_refresh_14 : decode cX8_refresh 14 = .ok (.return_, 1) := by decide +kernel
theorem dX8_refresh_15 : decode cX8_refresh 15 = .ok (.aload_n 0, 1) := by decide +kernel
theorem dX8_refresh_16 : decode cX8_refresh 16 = .ok (.aload_n 0, 1) := by decide +kernel
theorem dX8_refresh_17 : decode cX8_refresh 17 = .ok (.getfield 29, 3) := by decide +kernel
theorem dX8_refresh_20 : decode cX8_refresh 20 = .ok (.getfield 46, 3) := by decide +kernel
theorem dX8_refresh_23 : decode cX8_refresh 23 = .ok (.putfield 42, 3) := by decide +kernel
theorem dX8_refresh_26 : decode cX8_refresh 26 = .ok (.iconst 0, 1) := by decide +kernel
theorem dX8_refresh_27 : decode cX8_refresh 27 = .ok (.istore_n 1, 1) := by decide +kernel
theorem dX8_refresh_28 : decode cX8_refresh 28 = .ok (.iload_n 1, 1) := by decide +kernel
theorem dX8_refresh_29 : decode cX8_refresh 29 = .ok (.aload_n 0, 1) := by decide +kernel
theorem dX8_refresh_30 : decode cX8_refresh 30 = .ok (.getfield 29, 3) := by decide +kernel
theorem dX8_refresh_33 : decode cX8_refresh 33 = .ok (.invokevirtual 49, 3) := by decide +kernel
theorem dX8_refresh_36 : decode cX8_refresh 36 = .ok (.if_icmp .ge 63, 3) := by decide +kernel
theorem dX8_refresh_39 : decode cX8_refresh 39 = .ok (.iload_n 1, 1) := by decide +kernel
theorem dX8_refresh_40 : decode cX8_refresh 40 = .ok (.sipush 256, 3) := by decide +kernel
theorem dX8_refresh_43 : decode cX8_refresh 43 = .ok (.if_icmp .ge 56, 3) := by decide +kernel
theorem dX8_refresh_46 : decode cX8_refresh 46 = .ok (.aload_n 0, 1) := by decide +kernel
theorem dX8_refresh_47 : decode cX8_refresh 47 = .ok (.getfield 38, 3) := by decide +kernel
theorem dX8_refresh_50 : decode cX8_refresh 50 = .ok (.iload_n 1, 1) := by decide +kernel
theorem dX8_refresh_51 : decode cX8_refresh 51 = .ok (.invokevirtual 53, 3) := by decide +kernel
theorem dX8_refresh_54 : decode cX8_refresh 54 = .ok (.aload_n 0, 1) := by decide +kernel
theorem dX8_refresh_55 : decode cX8_refresh 55 = .ok (.getfield 11, 3) := by decide +kernel
theorem dX8_refresh_58 : decode cX8_refresh 58 = .ok (.iload_n 1, 1) := by decide +kernel
theorem dX8_refresh_59 : decode cX8_refresh 59 = .ok (.aload_n 0, 1) := by decide +kernel
theorem dX8_refresh_60 : decode cX8_refresh 60 = .ok (.getfield 38, 3) := by decide +kernel
theorem dX8_refresh_63 : decode cX8_refresh 63 = .ok (.invokevirtual 57, 3) := by decide +kernel
theorem dX8_refresh_66 : decode cX8_refresh 66 = .ok (.iastore, 1) := by decide +kernel
theorem dX8_refresh_67 : decode cX8_refresh 67 = .ok (.aload_n 0, 1) := by decide +kernel
theorem dX8_refresh_68 : decode cX8_refresh 68 = .ok (.getfield 15, 3) := by decide +kernel
theorem dX8_refresh_71 : decode cX8_refresh 71 = .ok (.iload_n 1, 1) := by decide +kernel
theorem dX8_refresh_72 : decode cX8_refresh 72 = .ok (.aload_n 0, 1) := by decide +kernel
theorem dX8_refresh_73 : decode cX8_refresh 73 = .ok (.getfield 38, 3) := by decide +kernel
theorem dX8_refresh_76 : decode cX8_refresh 76 = .ok (.getfield 59, 3) := by decide +kernel
theorem dX8_refresh_79 : decode cX8_refresh 79 = .ok (.iastore, 1) := by decide +kernel
theorem dX8_refresh_80 : decode cX8_refresh 80 = .ok (.aload_n 0, 1) := by decide +kernel
theorem dX8_refresh_81 : decode cX8_refresh 81 = .ok (.getfield 18, 3) := by decide +kernel
theorem dX8_refresh_84 : decode cX8_refresh 84 = .ok (.iload_n 1, 1) := by decide +kernel
theorem dX8_refresh_85 : decode cX8_refresh 85 = .ok (.aload_n 0, 1) := by decide +kernel
theorem dX8_refresh_86 : decode cX8_refresh 86 = .ok (.getfield 38, 3) := by decide +kernel
theorem dX8_refresh_89 : decode cX8_refresh 89 = .ok (.getfield 61, 3) := by decide +kernel
theorem dX8_refresh_92 : decode cX8_refresh 92 = .ok (.iastore, 1) := by decide +kernel
theorem dX8_refresh_93 : decode cX8_refresh 93 = .ok (.iinc 1 1, 3) := by decide +kernel
theorem dX8_refresh_96 : decode cX8_refresh 96 = .ok (.goto (-68), 3) := by decide +kernel
theorem dX8_refresh_99 : decode cX8_refresh 99 = .ok (.return_, 1) := by decide +kernel
theorem dX8_weigh_0 : decode cX8_weigh 0 = .ok (.aload_n 0, 1) := by decide +kernel
theorem dX8_weigh_1 : decode cX8_weigh 1 = .ok (.lconst 1, 1) := by decide +kernel
theorem dX8_weigh_2 : decode cX8_weigh 2 = .ok (.putfield 25, 3) := by decide +kernel
theorem dX8_weigh_5 : decode cX8_weigh 5 = .ok (.aload_n 0, 1) := by decide +kernel
theorem dX8_weigh_6 : decode cX8_weigh 6 = .ok (.getfield 21, 3) := by decide +kernel
theorem dX8_weigh_9 : decode cX8_weigh 9 = .ok (.iconst 0, 1) := by decide +kernel
theorem dX8_weigh_10 : decode cX8_weigh 10 = .ok (.lconst 1, 1) := by decide +kernel
theorem dX8_weigh_11 : decode cX8_weigh 11 = .ok (.lastore, 1) := by decide +kernel
theorem dX8_weigh_12 : decode cX8_weigh 12 = .ok (.iconst 0, 1) := by decide +kernel
theorem dX8_weigh_13 : decode cX8_weigh 13 = .ok (.istore_n 3, 1) := by decide +kernel
theorem dX8_weigh_14 : decode cX8_weigh 14 = .ok (.iload_n 3, 1) := by decide +kernel
theorem dX8_weigh_15 : decode cX8_weigh 15 = .ok (.aload_n 0, 1) := by decide +kernel
theorem dX8_weigh_16 : decode cX8_weigh 16 = .ok (.getfield 29, 3) := by decide +kernel
theorem dX8_weigh_19 : decode cX8_weigh 19 = .ok (.getfield 63, 3) := by decide +kernel
theorem dX8_weigh_22 : decode cX8_weigh 22 = .ok (.if_icmp .ge 114, 3) := by decide +kernel
theorem dX8_weigh_25 : decode cX8_weigh 25 = .ok (.iload_n 3, 1) := by decide +kernel
theorem dX8_weigh_26 : decode cX8_weigh 26 = .ok (.bipush 8, 2) := by decide +kernel
theorem dX8_weigh_28 : decode cX8_weigh 28 = .ok (.if_icmp .ge 108, 3) := by decide +kernel
theorem dX8_weigh_31 : decode cX8_weigh 31 = .ok (.iload_n 2, 1) := by decide +kernel
theorem dX8_weigh_32 : decode cX8_weigh 32 = .ok (.iload_n 3, 1) := by decide +kernel
theorem dX8_weigh_33 : decode cX8_weigh 33 = .ok (.ishr, 1) := by decide +kernel
theorem dX8_weigh_34 : decode cX8_weigh 34 = .ok (.iconst 1, 1) := by decide +kernel
theorem dX8_weigh_35 : decode cX8_weigh 35 = .ok (.iand, 1) := by decide +kernel
theorem dX8_weigh_36 : decode cX8_weigh 36 = .ok (.iconst 1, 1) := by decide +kernel
theorem dX8_weigh_37 : decode cX8_weigh 37 = .ok (.if_icmp .ne 7, 3) := by decide +kernel
theorem dX8_weigh_40 : decode cX8_weigh 40 = .ok (.iconst 1, 1) := by decide +kernel
theorem dX8_weigh_41 : decode cX8_weigh 41 = .ok (.goto 4, 3) := by decide +kernel
theorem dX8_weigh_44 : decode cX8_weigh 44 = .ok (.iconst 0, 1) := by decide +kernel
theorem dX8_weigh_45 : decode cX8_weigh 45 = .ok (.istore 4, 2) := by decide +kernel
theorem dX8_weigh_47 : decode cX8_weigh 47 = .ok (.iload 4, 2) := by decide +kernel
theorem dX8_weigh_49 : decode cX8_weigh 49 = .ok (.ifCond .eq 9, 3) := by decide +kernel
theorem dX8_weigh_52 : decode cX8_weigh 52 = .ok (.ldc2_w 66, 3) := by decide +kernel
theorem dX8_weigh_55 : decode cX8_weigh 55 = .ok (.goto 6, 3) := by decide +kernel
theorem dX8_weigh_58 : decode cX8_weigh 58 = .ok (.ldc2_w 68, 3) := by decide +kernel
theorem dX8_weigh_61 : decode cX8_weigh 61 = .ok (.lstore 5, 2) := by decide +kernel
theorem dX8_weigh_63 : decode cX8_weigh 63 = .ok (.iload_n 1, 1) := by decide +kernel
theorem dX8_weigh_64 : decode cX8_weigh 64 = .ok (.iload_n 3, 1) := by decide +kernel
theorem dX8_weigh_65 : decode cX8_weigh 65 = .ok (.ishr, 1) := by decide +kernel
theorem dX8_weigh_66 : decode cX8_weigh 66 = .ok (.iconst 1, 1) := by decide +kernel
theorem dX8_weigh_67 : decode cX8_weigh 67 = .ok (.iand, 1) := by decide +kernel
theorem dX8_weigh_68 : decode cX8_weigh 68 = .ok (.iconst 1, 1) := by decide +kernel
theorem dX8_weigh_69 : decode cX8_weigh 69 = .ok (.if_icmp .ne 7, 3) := by decide +kernel
theorem dX8_weigh_72 : decode cX8_weigh 72 = .ok (.lconst 0, 1) := by decide +kernel
theorem dX8_weigh_73 : decode cX8_weigh 73 = .ok (.goto 13, 3) := by decide +kernel
theorem dX8_weigh_76 : decode cX8_weigh 76 = .ok (.aload_n 0, 1) := by decide +kernel
theorem dX8_weigh_77 : decode cX8_weigh 77 = .ok (.getfield 29, 3) := by decide +kernel
theorem dX8_weigh_80 : decode cX8_weigh 80 = .ok (.iconst 1, 1) := by decide +kernel
theorem dX8_weigh_81 : decode cX8_weigh 81 = .ok (.iload_n 3, 1) := by decide +kernel
theorem dX8_weigh_82 : decode cX8_weigh 82 = .ok (.invokevirtual 70, 3) := by decide +kernel
theorem dX8_weigh_85 : decode cX8_weigh 85 = .ok (.i2l, 1) := by decide +kernel
theorem dX8_weigh_86 : decode cX8_weigh 86 = .ok (.lstore 7, 2) := by decide +kernel
theorem dX8_weigh_88 : decode cX8_weigh 88 = .ok (.lload 7, 2) := by decide +kernel
theorem dX8_weigh_90 : decode cX8_weigh 90 = .ok (.iload 4, 2) := by decide +kernel
theorem dX8_weigh_92 : decode cX8_weigh 92 = .ok (.ifCond .eq 11, 3) := by decide +kernel
theorem dX8_weigh_95 : decode cX8_weigh 95 = .ok (.iload_n 2, 1) := by decide +kernel
theorem dX8_weigh_96 : decode cX8_weigh 96 = .ok (.invokestatic 74, 3) := by decide +kernel
theorem dX8_weigh_99 : decode cX8_weigh 99 = .ok (.i2l, 1) := by decide +kernel
theorem dX8_weigh_100 : decode cX8_weigh 100 = .ok (.goto 4, 3) := by decide +kernel
theorem dX8_weigh_103 : decode cX8_weigh 103 = .ok (.lconst 1, 1) := by decide +kernel
theorem dX8_weigh_104 : decode cX8_weigh 104 = .ok (.lmul, 1) := by decide +kernel
theorem dX8_weigh_105 : decode cX8_weigh 105 = .ok (.lstore 7, 2) := by decide +kernel
theorem dX8_weigh_107 : decode cX8_weigh 107 = .ok (.aload_n 0, 1) := by decide +kernel
theorem dX8_weigh_108 : decode cX8_weigh 108 = .ok (.iload_n 3, 1) := by decide +kernel
theorem dX8_weigh_109 : decode cX8_weigh 109 = .ok (.lload 7, 2) := by decide +kernel
theorem dX8_weigh_111 : decode cX8_weigh 111 = .ok (.lload 5, 2) := by decide +kernel
theorem dX8_weigh_113 : decode cX8_weigh 113 = .ok (.lload 7, 2) := by decide +kernel
theorem dX8_weigh_115 : decode cX8_weigh 115 = .ok (.lsub, 1) := by decide +kernel
theorem dX8_weigh_116 : decode cX8_weigh 116 = .ok (.invokevirtual 80, 3) := by decide +kernel
theorem dX8_weigh_119 : decode cX8_weigh 119 = .ok (.aload_n 0, 1) := by decide +kernel
theorem dX8_weigh_120 : decode cX8_weigh 120 = .ok (.dup, 1) := by decide +kernel
theorem dX8_weigh_121 : decode cX8_weigh 121 = .ok (.getfield 25, 3) := by decide +kernel
theorem dX8_weigh_124 : decode cX8_weigh 124 = .ok (.lload 5, 2) := by decide +kernel
theorem dX8_weigh_126 : decode cX8_weigh 126 = .ok (.lmul, 1) := by decide +kernel
theorem dX8_weigh_127 : decode cX8_weigh 127 = .ok (.putfield 25, 3) := by decide +kernel
theorem dX8_weigh_130 : decode cX8_weigh 130 = .ok (.iinc 3 1, 3) := by decide +kernel
theorem dX8_weigh_133 : decode cX8_weigh 133 = .ok (.goto (-119), 3) := by decide +kernel
theorem dX8_weigh_136 : decode cX8_weigh 136 = .ok (.return_, 1) := by decide +kernel
theorem dX8_part_0 : decode cX8_part 0 = .ok (.iconst 1, 1) := by decide +kernel
theorem dX8_part_1 : decode cX8_part 1 = .ok (.iload_n 1, 1) := by decide +kernel
theorem dX8_part_2 : decode cX8_part 2 = .ok (.ishl, 1) := by decide +kernel
theorem dX8_part_3 : decode cX8_part 3 = .ok (.istore 6, 2) := by decide +kernel
theorem dX8_part_5 : decode cX8_part 5 = .ok (.iconst 0, 1) := by decide +kernel
theorem dX8_part_6 : decode cX8_part 6 = .ok (.istore 7, 2) := by decide +kernel
theorem dX8_part_8 : decode cX8_part 8 = .ok (.iload 7, 2) := by decide +kernel
theorem dX8_part_10 : decode cX8_part 10 = .ok (.iload 6, 2) := by decide +kernel
theorem dX8_part_12 : decode cX8_part 12 = .ok (.if_icmp .ge 51, 3) := by decide +kernel
theorem dX8_part_15 : decode cX8_part 15 = .ok (.iload 6, 2) := by decide +kernel
theorem dX8_part_17 : decode cX8_part 17 = .ok (.iload 7, 2) := by decide +kernel
theorem dX8_part_19 : decode cX8_part 19 = .ok (.iadd, 1) := by decide +kernel
theorem dX8_part_20 : decode cX8_part 20 = .ok (.sipush 256, 3) := by decide +kernel
theorem dX8_part_23 : decode cX8_part 23 = .ok (.if_icmp .ge 40, 3) := by decide +kernel
theorem dX8_part_26 : decode cX8_part 26 = .ok (.aload_n 0, 1) := by decide +kernel
theorem dX8_part_27 : decode cX8_part 27 = .ok (.getfield 21, 3) := by decide +kernel
theorem dX8_part_30 : decode cX8_part 30 = .ok (.iload 6, 2) := by decide +kernel
theorem dX8_part_32 : decode cX8_part 32 = .ok (.iload 7, 2) := by decide +kernel
theorem dX8_part_34 : decode cX8_part 34 = .ok (.iadd, 1) := by decide +kernel
theorem dX8_part_35 : decode cX8_part 35 = .ok (.aload_n 0, 1) := by decide +kernel
theorem dX8_part_36 : decode cX8_part 36 = .ok (.getfield 21, 3) := by decide +kernel
theorem dX8_part_39 : decode cX8_part 39 = .ok (.iload 7, 2) := by decide +kernel
theorem dX8_part_41 : decode cX8_part 41 = .ok (.laload, 1) := by decide +kernel
theorem dX8_part_42 : decode cX8_part 42 = .ok (.lload_n 2, 1) := by decide +kernel
theorem dX8_part_43 : decode cX8_part 43 = .ok (.lmul, 1) := by decide +kernel
theorem dX8_part_44 : decode cX8_part 44 = .ok (.lastore, 1) := by decide +kernel
theorem dX8_part_45 : decode cX8_part 45 = .ok (.aload_n 0, 1) := by decide +kernel
theorem dX8_part_46 : decode cX8_part 46 = .ok (.getfield 21, 3) := by decide +kernel
theorem dX8_part_49 : decode cX8_part 49 = .ok (.iload 7, 2) := by decide +kernel
theorem dX8_part_51 : decode cX8_part 51 = .ok (.dup2, 1) := by decide +kernel
theorem dX8_part_52 : decode cX8_part 52 = .ok (.laload, 1) := by decide +kernel
theorem dX8_part_53 : decode cX8_part 53 = .ok (.lload 4, 2) := by decide +kernel
theorem dX8_part_55 : decode cX8_part 55 = .ok (.lmul, 1) := by decide +kernel
theorem dX8_part_56 : decode cX8_part 56 = .ok (.lastore, 1) := by decide +kernel
theorem dX8_part_57 : decode cX8_part 57 = .ok (.iinc 7 1, 3) := by decide +kernel
theorem dX8_part_60 : decode cX8_part 60 = .ok (.goto (-52), 3) := by decide +kernel
theorem dX8_part_63 : decode cX8_part 63 = .ok (.return_, 1) := by decide +kernel
theorem dX8_costs_0 : decode cX8_costs 0 = .ok (.lconst 0, 1) := by decide +kernel
theorem dX8_costs_1 : decode cX8_costs 1 = .ok (.lstore_n 1, 1) := by decide +kernel
theorem dX8_costs_2 : decode cX8_costs 2 = .ok (.iconst 0, 1) := by decide +kernel
theorem dX8_costs_3 : decode cX8_costs 3 = .ok (.istore_n 3, 1) := by decide +kernel
theorem dX8_costs_4 : decode cX8_costs 4 = .ok (.iload_n 3, 1) := by decide +kernel
theorem dX8_costs_5 : decode cX8_costs 5 = .ok (.aload_n 0, 1) := by decide +kernel
theorem dX8_costs_6 : decode cX8_costs 6 = .ok (.getfield 29, 3) := by decide +kernel
theorem dX8_costs_9 : decode cX8_costs 9 = .ok (.invokevirtual 49, 3) := by decide +kernel
theorem dX8_costs_12 : decode cX8_costs 12 = .ok (.if_icmp .ge 33, 3) := by decide +kernel
theorem dX8_costs_15 : decode cX8_costs 15 = .ok (.iload_n 3, 1) := by decide +kernel
theorem dX8_costs_16 : decode cX8_costs 16 = .ok (.sipush 256, 3) := by decide +kernel
theorem dX8_costs_19 : decode cX8_costs 19 = .ok (.if_icmp .ge 26, 3) := by decide +kernel
theorem dX8_costs_22 : decode cX8_costs 22 = .ok (.lload_n 1, 1) := by decide +kernel
theorem dX8_costs_23 : decode cX8_costs 23 = .ok (.aload_n 0, 1) := by decide +kernel
theorem dX8_costs_24 : decode cX8_costs 24 = .ok (.getfield 21, 3) := by decide +kernel
theorem dX8_costs_27 : decode cX8_costs 27 = .ok (.iload_n 3, 1) := by decide +kernel
theorem dX8_costs_28 : decode cX8_costs 28 = .ok (.laload, 1) := by decide +kernel
theorem dX8_costs_29 : decode cX8_costs 29 = .ok (.aload_n 0, 1) := by decide +kernel
theorem dX8_costs_30 : decode cX8_costs 30 = .ok (.getfield 11, 3) := by decide +kernel
theorem dX8_costs_33 : decode cX8_costs 33 = .ok (.iload_n 3, 1) := by decide +kernel
theorem dX8_costs_34 : decode cX8_costs 34 = .ok (.iaload, 1) := by decide +kernel
theorem dX8_costs_35 : decode cX8_costs 35 = .ok (.i2l, 1) := by decide +kernel
theorem dX8_costs_36 : decode cX8_costs 36 = .ok (.lmul, 1) := by decide +kernel
theorem dX8_costs_37 : decode cX8_costs 37 = .ok (.ladd, 1) := by decide +kernel
theorem dX8_costs_38 : decode cX8_costs 38 = .ok (.lstore_n 1, 1) := by decide +kernel
theorem dX8_costs_39 : decode cX8_costs 39 = .ok (.iinc 3 1, 3) := by decide +kernel
theorem dX8_costs_42 : decode cX8_costs 42 = .ok (.goto (-38), 3) := by decide +kernel
theorem dX8_costs_45 : decode cX8_costs 45 = .ok (.lload_n 1, 1) := by decide +kernel
theorem dX8_costs_46 : decode cX8_costs 46 = .ok (.lreturn, 1) := by decide +kernel
theorem dX8_waysWithoutGoing_0 : decode cX8_waysWithoutGoing 0 = .ok (.lconst 0, 1) := by decide +kernel
theorem dX8_waysWithoutGoing_1 : decode cX8_waysWithoutGoing 1 = .ok (.lstore_n 1, 1) := by decide +kernel
theorem dX8_waysWithoutGoing_2 : decode cX8_waysWithoutGoing 2 = .ok (.iconst 0, 1) := by decide +kernel
theorem dX8_waysWithoutGoing_3 : decode cX8_waysWithoutGoing 3 = .ok (.istore_n 3, 1) := by decide +kernel
theorem dX8_waysWithoutGoing_4 : decode cX8_waysWithoutGoing 4 = .ok (.iload_n 3, 1) := by decide +kernel
theorem dX8_waysWithoutGoing_5 : decode cX8_waysWithoutGoing 5 = .ok (.aload_n 0, 1) := by decide +kernel
theorem dX8_waysWithoutGoing_6 : decode cX8_waysWithoutGoing 6 = .ok (.getfield 29, 3) := by decide +kernel
theorem dX8_waysWithoutGoing_9 : decode cX8_waysWithoutGoing 9 = .ok (.invokevirtual 49, 3) := by decide +kernel
theorem dX8_waysWithoutGoing_12 : decode cX8_waysWithoutGoing 12 = .ok (.if_icmp .ge 38, 3) := by decide +kernel
theorem dX8_waysWithoutGoing_15 : decode cX8_waysWithoutGoing 15 = .ok (.iload_n 3, 1) := by decide +kernel
theorem dX8_waysWithoutGoing_16 : decode cX8_waysWithoutGoing 16 = .ok (.sipush 256, 3) := by decide +kernel
theorem dX8_waysWithoutGoing_19 : decode cX8_waysWithoutGoing 19 = .ok (.if_icmp .ge 31, 3) := by decide +kernel
theorem dX8_waysWithoutGoing_22 : decode cX8_waysWithoutGoing 22 = .ok (.lload_n 1, 1) := by decide +kernel
theorem dX8_waysWithoutGoing_23 : decode cX8_waysWithoutGoing 23 = .ok (.aload_n 0, 1) := by decide +kernel
theorem dX8_waysWithoutGoing_24 : decode cX8_waysWithoutGoing 24 = .ok (.getfield 18, 3) := by decide +kernel
theorem dX8_waysWithoutGoing_27 : decode cX8_waysWithoutGoing 27 = .ok (.iload_n 3, 1) := by decide +kernel
theorem dX8_waysWithoutGoing_28 : decode cX8_waysWithoutGoing 28 = .ok (.iaload, 1) := by decide +kernel
theorem dX8_waysWithoutGoing_29 : decode cX8_waysWithoutGoing 29 = .ok (.ifCond .ne 12, 3) := by decide +kernel
theorem dX8_waysWithoutGoing_32 : decode cX8_waysWithoutGoing 32 = .ok (.aload_n 0, 1) := by decide +kernel
theorem dX8_waysWithoutGoing_33 : decode cX8_waysWithoutGoing 33 = .ok (.getfield 21, 3) := by decide +kernel
theorem dX8_waysWithoutGoing_36 : decode cX8_waysWithoutGoing 36 = .ok (.iload_n 3, 1) := by decide +kernel
theorem dX8_waysWithoutGoing_37 : decode cX8_waysWithoutGoing 37 = .ok (.laload, 1) := by decide +kernel
theorem dX8_waysWithoutGoing_38 : decode cX8_waysWithoutGoing 38 = .ok (.goto 4, 3) := by decide +kernel
theorem dX8_waysWithoutGoing_41 : decode cX8_waysWithoutGoing 41 = .ok (.lconst 0, 1) := by decide +kernel
theorem dX8_waysWithoutGoing_42 : decode cX8_waysWithoutGoing 42 = .ok (.ladd, 1) := by decide +kernel
theorem dX8_waysWithoutGoing_43 : decode cX8_waysWithoutGoing 43 = .ok (.lstore_n 1, 1) := by decide +kernel
theorem dX8_waysWithoutGoing_44 : decode cX8_waysWithoutGoing 44 = .ok (.iinc 3 1, 3) := by decide +kernel
theorem dX8_waysWithoutGoing_47 : decode cX8_waysWithoutGoing 47 = .ok (.goto (-43), 3) := by decide +kernel
theorem dX8_waysWithoutGoing_50 : decode cX8_waysWithoutGoing 50 = .ok (.lload_n 1, 1) := by decide +kernel
theorem dX8_waysWithoutGoing_51 : decode cX8_waysWithoutGoing 51 = .ok (.lreturn, 1) := by decide +kernel
theorem dX8_waysWithLeft_0 : decode cX8_waysWithLeft 0 = .ok (.lconst 0, 1) := by decide +kernel
theorem dX8_waysWithLeft_1 : decode cX8_waysWithLeft 1 = .ok (.lstore_n 2, 1) := by decide +kernel
theorem dX8_waysWithLeft_2 : decode cX8_waysWithLeft 2 = .ok (.iconst 0, 1) := by decide +kernel
theorem dX8_waysWithLeft_3 : decode cX8_waysWithLeft 3 = .ok (.istore 4, 2) := by decide +kernel
theorem dX8_waysWithLeft_5 : decode cX8_waysWithLeft 5 = .ok (.iload 4, 2) := by decide +kernel
theorem dX8_waysWithLeft_7 : decode cX8_waysWithLeft 7 = .ok (.aload_n 0, 1) := by decide +kernel
theorem dX8_waysWithLeft_8 : decode cX8_waysWithLeft 8 = .ok (.getfield 29, 3) := by decide +kernel
theorem dX8_waysWithLeft_11 : decode cX8_waysWithLeft 11 = .ok (.invokevirtual 49, 3) := by decide +kernel
theorem dX8_waysWithLeft_14 : decode cX8_waysWithLeft 14 = .ok (.if_icmp .ge 43, 3) := by decide +kernel
theorem dX8_waysWithLeft_17 : decode cX8_waysWithLeft 17 = .ok (.iload 4, 2) := by decide +kernel
theorem dX8_waysWithLeft_19 : decode cX8_waysWithLeft 19 = .ok (.sipush 256, 3) := by decide +kernel
theorem dX8_waysWithLeft_22 : decode cX8_waysWithLeft 22 = .ok (.if_icmp .ge 35, 3) := by decide +kernel
theorem dX8_waysWithLeft_25 : decode cX8_waysWithLeft 25 = .ok (.lload_n 2, 1) := by decide +kernel
theorem dX8_waysWithLeft_26 : decode cX8_waysWithLeft 26 = .ok (.aload_n 0, 1) := by decide +kernel
theorem dX8_waysWithLeft_27 : decode cX8_waysWithLeft 27 = .ok (.getfield 15, 3) := by decide +kernel
theorem dX8_waysWithLeft_30 : decode cX8_waysWithLeft 30 = .ok (.iload 4, 2) := by decide +kernel
theorem dX8_waysWithLeft_32 : decode cX8_waysWithLeft 32 = .ok (.iaload, 1) := by decide +kernel
theorem dX8_waysWithLeft_33 : decode cX8_waysWithLeft 33 = .ok (.iload_n 1, 1) := by decide +kernel
theorem dX8_waysWithLeft_34 : decode cX8_waysWithLeft 34 = .ok (.iand, 1) := by decide +kernel
theorem dX8_waysWithLeft_35 : decode cX8_waysWithLeft 35 = .ok (.ifCond .eq 13, 3) := by decide +kernel
theorem dX8_waysWithLeft_38 : decode cX8_waysWithLeft 38 = .ok (.aload_n 0, 1) := by decide +kernel
theorem dX8_waysWithLeft_39 : decode cX8_waysWithLeft 39 = .ok (.getfield 21, 3) := by decide +kernel
theorem dX8_waysWithLeft_42 : decode cX8_waysWithLeft 42 = .ok (.iload 4, 2) := by decide +kernel
theorem dX8_waysWithLeft_44 : decode cX8_waysWithLeft 44 = .ok (.laload, 1) := by decide +kernel
theorem dX8_waysWithLeft_45 : decode cX8_waysWithLeft 45 = .ok (.goto 4, 3) := by decide +kernel
theorem dX8_waysWithLeft_48 : decode cX8_waysWithLeft 48 = .ok (.lconst 0, 1) := by decide +kernel
theorem dX8_waysWithLeft_49 : decode cX8_waysWithLeft 49 = .ok (.ladd, 1) := by decide +kernel
theorem dX8_waysWithLeft_50 : decode cX8_waysWithLeft 50 = .ok (.lstore_n 2, 1) := by decide +kernel
theorem dX8_waysWithLeft_51 : decode cX8_waysWithLeft 51 = .ok (.iinc 4 1, 3) := by decide +kernel
theorem dX8_waysWithLeft_54 : decode cX8_waysWithLeft 54 = .ok (.goto (-49), 3) := by decide +kernel
theorem dX8_waysWithLeft_57 : decode cX8_waysWithLeft 57 = .ok (.lload_n 2, 1) := by decide +kernel
theorem dX8_waysWithLeft_58 : decode cX8_waysWithLeft 58 = .ok (.lreturn, 1) := by decide +kernel
theorem dX8_inLowestTerms_0 : decode cX8_inLowestTerms 0 = .ok (.aload_n 0, 1) := by decide +kernel
theorem dX8_inLowestTerms_1 : decode cX8_inLowestTerms 1 = .ok (.getfield 25, 3) := by decide +kernel
theorem dX8_inLowestTerms_4 : decode cX8_inLowestTerms 4 = .ok (.lstore 4, 2) := by decide +kernel
theorem dX8_inLowestTerms_6 : decode cX8_inLowestTerms 6 = .ok (.lload_n 1, 1) := by decide +kernel
theorem dX8_inLowestTerms_7 : decode cX8_inLowestTerms 7 = .ok (.lstore 6, 2) := by decide +kernel
theorem dX8_inLowestTerms_9 : decode cX8_inLowestTerms 9 = .ok (.iconst 0, 1) := by decide +kernel
theorem dX8_inLowestTerms_10 : decode cX8_inLowestTerms 10 = .ok (.istore 8, 2) := by decide +kernel
theorem dX8_inLowestTerms_12 : decode cX8_inLowestTerms 12 = .ok (.iload 8, 2) := by decide +kernel
theorem dX8_inLowestTerms_14 : decode cX8_inLowestTerms 14 = .ok (.sipush 200, 3) := by decide +kernel
theorem dX8_inLowestTerms_17 : decode cX8_inLowestTerms 17 = .ok (.if_icmp .ge 31, 3) := by decide +kernel
theorem dX8_inLowestTerms_20 : decode cX8_inLowestTerms 20 = .ok (.lload 6, 2) := by decide +kernel
theorem dX8_inLowestTerms_22 : decode cX8_inLowestTerms 22 = .ok (.lconst 0, 1) := by decide +kernel
theorem dX8_inLowestTerms_23 : decode cX8_inLowestTerms 23 = .ok (.lcmp, 1) := by decide +kernel
theorem dX8_inLowestTerms_24 : decode cX8_inLowestTerms 24 = .ok (.ifCond .eq 24, 3) := by decide +kernel
theorem dX8_inLowestTerms_27 : decode cX8_inLowestTerms 27 = .ok (.lload 4, 2) := by decide +kernel
theorem dX8_inLowestTerms_29 : decode cX8_inLowestTerms 29 = .ok (.lload 6, 2) := by decide +kernel
theorem dX8_inLowestTerms_31 : decode cX8_inLowestTerms 31 = .ok (.lrem, 1) := by decide +kernel
theorem dX8_inLowestTerms_32 : decode cX8_inLowestTerms 32 = .ok (.lstore 9, 2) := by decide +kernel
theorem dX8_inLowestTerms_34 : decode cX8_inLowestTerms 34 = .ok (.lload 6, 2) := by decide +kernel
theorem dX8_inLowestTerms_36 : decode cX8_inLowestTerms 36 = .ok (.lstore 4, 2) := by decide +kernel
theorem dX8_inLowestTerms_38 : decode cX8_inLowestTerms 38 = .ok (.lload 9, 2) := by decide +kernel
theorem dX8_inLowestTerms_40 : decode cX8_inLowestTerms 40 = .ok (.lstore 6, 2) := by decide +kernel
theorem dX8_inLowestTerms_42 : decode cX8_inLowestTerms 42 = .ok (.iinc 8 1, 3) := by decide +kernel
theorem dX8_inLowestTerms_45 : decode cX8_inLowestTerms 45 = .ok (.goto (-33), 3) := by decide +kernel
theorem dX8_inLowestTerms_48 : decode cX8_inLowestTerms 48 = .ok (.lload 4, 2) := by decide +kernel
theorem dX8_inLowestTerms_50 : decode cX8_inLowestTerms 50 = .ok (.lconst 0, 1) := by decide +kernel
theorem dX8_inLowestTerms_51 : decode cX8_inLowestTerms 51 = .ok (.lcmp, 1) := by decide +kernel
theorem dX8_inLowestTerms_52 : decode cX8_inLowestTerms 52 = .ok (.ifCond .ne 5, 3) := by decide +kernel
theorem dX8_inLowestTerms_55 : decode cX8_inLowestTerms 55 = .ok (.lconst 0, 1) := by decide +kernel
theorem dX8_inLowestTerms_56 : decode cX8_inLowestTerms 56 = .ok (.lreturn, 1) := by decide +kernel
theorem dX8_inLowestTerms_57 : decode cX8_inLowestTerms 57 = .ok (.iload_n 3, 1) := by decide +kernel
theorem dX8_inLowestTerms_58 : decode cX8_inLowestTerms 58 = .ok (.ifCond .ne 10, 3) := by decide +kernel
theorem dX8_inLowestTerms_61 : decode cX8_inLowestTerms 61 = .ok (.lload_n 1, 1) := by decide +kernel
theorem dX8_inLowestTerms_62 : decode cX8_inLowestTerms 62 = .ok (.lload 4, 2) := by decide +kernel
theorem dX8_inLowestTerms_64 : decode cX8_inLowestTerms 64 = .ok (.ldiv, 1) := by decide +kernel
theorem dX8_inLowestTerms_65 : decode cX8_inLowestTerms 65 = .ok (.goto 10, 3) := by decide +kernel
theorem dX8_inLowestTerms_68 : decode cX8_inLowestTerms 68 = .ok (.aload_n 0, 1) := by decide +kernel
theorem dX8_inLowestTerms_69 : decode cX8_inLowestTerms 69 = .ok (.getfield 25, 3) := by decide +kernel
theorem dX8_inLowestTerms_72 : decode cX8_inLowestTerms 72 = .ok (.lload 4, 2) := by decide +kernel
theorem dX8_inLowestTerms_74 : decode cX8_inLowestTerms 74 = .ok (.ldiv, 1) := by decide +kernel
theorem dX8_inLowestTerms_75 : decode cX8_inLowestTerms 75 = .ok (.lreturn, 1) := by decide +kernel
theorem dX8_bestDoorstep_0 : decode cX8_bestDoorstep 0 = .ok (.iconst 0, 1) := by decide +kernel
theorem dX8_bestDoorstep_1 : decode cX8_bestDoorstep 1 = .ok (.istore_n 1, 1) := by decide +kernel
theorem dX8_bestDoorstep_2 : decode cX8_bestDoorstep 2 = .ok (.ldc2_w 86, 3) := by decide +kernel
theorem dX8_bestDoorstep_5 : decode cX8_bestDoorstep 5 = .ok (.lstore_n 2, 1) := by decide +kernel
theorem dX8_bestDoorstep_6 : decode cX8_bestDoorstep 6 = .ok (.iconst 0, 1) := by decide +kernel
theorem dX8_bestDoorstep_7 : decode cX8_bestDoorstep 7 = .ok (.istore 4, 2) := by decide +kernel
theorem dX8_bestDoorstep_9 : decode cX8_bestDoorstep 9 = .ok (.iload 4, 2) := by decide +kernel
theorem dX8_bestDoorstep_11 : decode cX8_bestDoorstep 11 = .ok (.aload_n 0, 1) := by decide +kernel
theorem dX8_bestDoorstep_12 : decode cX8_bestDoorstep 12 = .ok (.getfield 29, 3) := by decide +kernel
theorem dX8_bestDoorstep_15 : decode cX8_bestDoorstep 15 = .ok (.getfield 63, 3) := by decide +kernel
theorem dX8_bestDoorstep_18 : decode cX8_bestDoorstep 18 = .ok (.if_icmp .ge 44, 3) := by decide +kernel
theorem dX8_bestDoorstep_21 : decode cX8_bestDoorstep 21 = .ok (.iload 4, 2) := by decide +kernel
theorem dX8_bestDoorstep_23 : decode cX8_bestDoorstep 23 = .ok (.bipush 8, 2) := by decide +kernel
theorem dX8_bestDoorstep_25 : decode cX8_bestDoorstep 25 = .ok (.if_icmp .ge 37, 3) := by decide +kernel
theorem dX8_bestDoorstep_28 : decode cX8_bestDoorstep 28 = .ok (.aload_n 0, 1) := by decide +kernel
theorem dX8_bestDoorstep_29 : decode cX8_bestDoorstep 29 = .ok (.iconst 1, 1) := by decide +kernel
theorem dX8_bestDoorstep_30 : decode cX8_bestDoorstep 30 = .ok (.iload 4, 2) := by decide +kernel
theorem dX8_bestDoorstep_32 : decode cX8_bestDoorstep 32 = .ok (.ishl, 1) := by decide +kernel
theorem dX8_bestDoorstep_33 : decode cX8_bestDoorstep 33 = .ok (.iconst 0, 1) := by decide +kernel
theorem dX8_bestDoorstep_34 : decode cX8_bestDoorstep 34 = .ok (.invokevirtual 88, 3) := by decide +kernel
theorem dX8_bestDoorstep_37 : decode cX8_bestDoorstep 37 = .ok (.aload_n 0, 1) := by decide +kernel
theorem dX8_bestDoorstep_38 : decode cX8_bestDoorstep 38 = .ok (.invokevirtual 92, 3) := by decide +kernel
theorem dX8_bestDoorstep_41 : decode cX8_bestDoorstep 41 = .ok (.lstore 5, 2) := by decide +kernel
theorem dX8_bestDoorstep_43 : decode cX8_bestDoorstep 43 = .ok (.lload 5, 2) := by decide +kernel
theorem dX8_bestDoorstep_45 : decode cX8_bestDoorstep 45 = .ok (.lload_n 2, 1) := by decide +kernel
theorem dX8_bestDoorstep_46 : decode cX8_bestDoorstep 46 = .ok (.lcmp, 1) := by decide +kernel
theorem dX8_bestDoorstep_47 : decode cX8_bestDoorstep 47 = .ok (.ifCond .ge 9, 3) := by decide +kernel
theorem dX8_bestDoorstep_50 : decode cX8_bestDoorstep 50 = .ok (.lload 5, 2) := by decide +kernel
theorem dX8_bestDoorstep_52 : decode cX8_bestDoorstep 52 = .ok (.lstore_n 2, 1) := by decide +kernel
theorem dX8_bestDoorstep_53 : decode cX8_bestDoorstep 53 = .ok (.iload 4, 2) := by decide +kernel
theorem dX8_bestDoorstep_55 : decode cX8_bestDoorstep 55 = .ok (.istore_n 1, 1) := by decide +kernel
theorem dX8_bestDoorstep_56 : decode cX8_bestDoorstep 56 = .ok (.iinc 4 1, 3) := by decide +kernel
theorem dX8_bestDoorstep_59 : decode cX8_bestDoorstep 59 = .ok (.goto (-50), 3) := by decide +kernel
theorem dX8_bestDoorstep_62 : decode cX8_bestDoorstep 62 = .ok (.iload_n 1, 1) := by decide +kernel
theorem dX8_bestDoorstep_63 : decode cX8_bestDoorstep 63 = .ok (.ireturn, 1) := by decide +kernel
theorem dX8_bestList_0 : decode cX8_bestList 0 = .ok (.iconst 0, 1) := by decide +kernel
theorem dX8_bestList_1 : decode cX8_bestList 1 = .ok (.istore_n 2, 1) := by decide +kernel
theorem dX8_bestList_2 : decode cX8_bestList 2 = .ok (.ldc2_w 86, 3) := by decide +kernel
theorem dX8_bestList_5 : decode cX8_bestList 5 = .ok (.lstore_n 3, 1) := by decide +kernel
theorem dX8_bestList_6 : decode cX8_bestList 6 = .ok (.ldc2_w 96, 3) := by decide +kernel
theorem dX8_bestList_9 : decode cX8_bestList 9 = .ok (.lstore 5, 2) := by decide +kernel
theorem dX8_bestList_11 : decode cX8_bestList 11 = .ok (.iconst 0, 1) := by decide +kernel
theorem dX8_bestList_12 : decode cX8_bestList 12 = .ok (.istore 7, 2) := by decide +kernel
theorem dX8_bestList_14 : decode cX8_bestList 14 = .ok (.iload 7, 2) := by decide +kernel
theorem dX8_bestList_16 : decode cX8_bestList 16 = .ok (.iload_n 1, 1) := by decide +kernel
theorem dX8_bestList_17 : decode cX8_bestList 17 = .ok (.if_icmp .gt 99, 3) := by decide +kernel
theorem dX8_bestList_20 : decode cX8_bestList 20 = .ok (.iload 7, 2) := by decide +kernel
theorem dX8_bestList_22 : decode cX8_bestList 22 = .ok (.iconst 3, 1) := by decide +kernel
theorem dX8_bestList_23 : decode cX8_bestList 23 = .ok (.if_icmp .gt 93, 3) := by decide +kernel
theorem dX8_bestList_26 : decode cX8_bestList 26 = .ok (.iconst 0, 1) := by decide +kernel
theorem dX8_bestList_27 : decode cX8_bestList 27 = .ok (.istore 8, 2) := by decide +kernel
theorem dX8_bestList_29 : decode cX8_bestList 29 = .ok (.iload 8, 2) := by decide +kernel
theorem dX8_bestList_31 : decode cX8_bestList 31 = .ok (.aload_n 0, 1) := by decide +kernel
theorem dX8_bestList_32 : decode cX8_bestList 32 = .ok (.getfield 29, 3) := by decide +kernel
theorem dX8_bestList_35 : decode cX8_bestList 35 = .ok (.invokevirtual 49, 3) := by decide +kernel
theorem dX8_bestList_38 : decode cX8_bestList 38 = .ok (.if_icmp .ge 64, 3) := by decide +kernel
theorem dX8_bestList_41 : decode cX8_bestList 41 = .ok (.iload 8, 2) := by decide +kernel
theorem dX8_bestList_43 : decode cX8_bestList 43 = .ok (.sipush 256, 3) := by decide +kernel
theorem dX8_bestList_46 : decode cX8_bestList 46 = .ok (.if_icmp .ge 56, 3) := by decide +kernel
theorem dX8_bestList_49 : decode cX8_bestList 49 = .ok (.iload 8, 2) := by decide +kernel
theorem dX8_bestList_51 : decode cX8_bestList 51 = .ok (.invokestatic 74, 3) := by decide +kernel
theorem dX8_bestList_54 : decode cX8_bestList 54 = .ok (.iload 7, 2) := by decide +kernel
theorem dX8_bestList_56 : decode cX8_bestList 56 = .ok (.if_icmp .ne 40, 3) := by decide +kernel
theorem dX8_bestList_59 : decode cX8_bestList 59 = .ok (.aload_n 0, 1) := by decide +kernel
theorem dX8_bestList_60 : decode cX8_bestList 60 = .ok (.iconst 0, 1) := by decide +kernel
theorem dX8_bestList_61 : decode cX8_bestList 61 = .ok (.iload 8, 2) := by decide +kernel
theorem dX8_bestList_63 : decode cX8_bestList 63 = .ok (.invokevirtual 88, 3) := by decide +kernel
theorem dX8_bestList_66 : decode cX8_bestList 66 = .ok (.aload_n 0, 1) := by decide +kernel
theorem dX8_bestList_67 : decode cX8_bestList 67 = .ok (.invokevirtual 92, 3) := by decide +kernel
theorem dX8_bestList_70 : decode cX8_bestList 70 = .ok (.lload 5, 2) := by decide +kernel
theorem dX8_bestList_72 : decode cX8_bestList 72 = .ok (.lmul, 1) := by decide +kernel
theorem dX8_bestList_73 : decode cX8_bestList 73 = .ok (.lstore 9, 2) := by decide +kernel
theorem dX8_bestList_75 : decode cX8_bestList 75 = .ok (.lload 9, 2) := by decide +kernel
