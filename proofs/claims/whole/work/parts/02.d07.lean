theorem dX8_bestList_77 : decode cX8_bestList 77 = .ok (.lload_n 3, 1) := by decide +kernel
theorem dX8_bestList_78 : decode cX8_bestList 78 = .ok (.lcmp, 1) := by decide +kernel
theorem dX8_bestList_79 : decode cX8_bestList 79 = .ok (.ifCond .ge 8, 3) := by decide +kernel
theorem dX8_bestList_82 : decode cX8_bestList 82 = .ok (.iload 8, 2) := by decide +kernel
theorem dX8_bestList_84 : decode cX8_bestList 84 = .ok (.goto 4, 3) := by decide +kernel
theorem dX8_bestList_87 : decode cX8_bestList 87 = .ok (.iload_n 2, 1) := by decide +kernel
theorem dX8_bestList_88 : decode cX8_bestList 88 = .ok (.istore_n 2, 1) := by decide +kernel
theorem dX8_bestList_89 : decode cX8_bestList 89 = .ok (.lload 9, 2) := by decide +kernel
theorem dX8_bestList_91 : decode cX8_bestList 91 = .ok (.lload_n 3, 1) := by decide +kernel
theorem dX8_bestList_92 : decode cX8_bestList 92 = .ok (.invokestatic 98, 3) := by decide +kernel
theorem dX8_bestList_95 : decode cX8_bestList 95 = .ok (.lstore_n 3, 1) := by decide +kernel
theorem dX8_bestList_96 : decode cX8_bestList 96 = .ok (.iinc 8 1, 3) := by decide +kernel
theorem dX8_bestList_99 : decode cX8_bestList 99 = .ok (.goto (-70), 3) := by decide +kernel
theorem dX8_bestList_102 : decode cX8_bestList 102 = .ok (.lload 5, 2) := by decide +kernel
theorem dX8_bestList_104 : decode cX8_bestList 104 = .ok (.ldc2_w 68, 3) := by decide +kernel
theorem dX8_bestList_107 : decode cX8_bestList 107 = .ok (.ldiv, 1) := by decide +kernel
theorem dX8_bestList_108 : decode cX8_bestList 108 = .ok (.lstore 5, 2) := by decide +kernel
theorem dX8_bestList_110 : decode cX8_bestList 110 = .ok (.iinc 7 1, 3) := by decide +kernel
theorem dX8_bestList_113 : decode cX8_bestList 113 = .ok (.goto (-99), 3) := by decide +kernel
theorem dX8_bestList_116 : decode cX8_bestList 116 = .ok (.iload_n 2, 1) := by decide +kernel
theorem dX8_bestList_117 : decode cX8_bestList 117 = .ok (.ireturn, 1) := by decide +kernel
theorem dX8_dearest_0 : decode cX8_dearest 0 = .ok (.iconst 1, 1) := by decide +kernel
theorem dX8_dearest_1 : decode cX8_dearest 1 = .ok (.istore_n 1, 1) := by decide +kernel
theorem dX8_dearest_2 : decode cX8_dearest 2 = .ok (.iconst 2, 1) := by decide +kernel
theorem dX8_dearest_3 : decode cX8_dearest 3 = .ok (.istore_n 2, 1) := by decide +kernel
theorem dX8_dearest_4 : decode cX8_dearest 4 = .ok (.iload_n 2, 1) := by decide +kernel
theorem dX8_dearest_5 : decode cX8_dearest 5 = .ok (.aload_n 0, 1) := by decide +kernel
theorem dX8_dearest_6 : decode cX8_dearest 6 = .ok (.getfield 29, 3) := by decide +kernel
theorem dX8_dearest_9 : decode cX8_dearest 9 = .ok (.invokevirtual 49, 3) := by decide +kernel
theorem dX8_dearest_12 : decode cX8_dearest 12 = .ok (.if_icmp .ge 33, 3) := by decide +kernel
theorem dX8_dearest_15 : decode cX8_dearest 15 = .ok (.iload_n 2, 1) := by decide +kernel
theorem dX8_dearest_16 : decode cX8_dearest 16 = .ok (.sipush 256, 3) := by decide +kernel
theorem dX8_dearest_19 : decode cX8_dearest 19 = .ok (.if_icmp .ge 26, 3) := by decide +kernel
theorem dX8_dearest_22 : decode cX8_dearest 22 = .ok (.aload_n 0, 1) := by decide +kernel
theorem dX8_dearest_23 : decode cX8_dearest 23 = .ok (.getfield 11, 3) := by decide +kernel
theorem dX8_dearest_26 : decode cX8_dearest 26 = .ok (.iload_n 2, 1) := by decide +kernel
theorem dX8_dearest_27 : decode cX8_dearest 27 = .ok (.iaload, 1) := by decide +kernel
theorem dX8_dearest_28 : decode cX8_dearest 28 = .ok (.aload_n 0, 1) := by decide +kernel
theorem dX8_dearest_29 : decode cX8_dearest 29 = .ok (.getfield 11, 3) := by decide +kernel
theorem dX8_dearest_32 : decode cX8_dearest 32 = .ok (.iload_n 1, 1) := by decide +kernel
theorem dX8_dearest_33 : decode cX8_dearest 33 = .ok (.iaload, 1) := by decide +kernel
theorem dX8_dearest_34 : decode cX8_dearest 34 = .ok (.if_icmp .le 5, 3) := by decide +kernel
theorem dX8_dearest_37 : decode cX8_dearest 37 = .ok (.iload_n 2, 1) := by decide +kernel
theorem dX8_dearest_38 : decode cX8_dearest 38 = .ok (.istore_n 1, 1) := by decide +kernel
theorem dX8_dearest_39 : decode cX8_dearest 39 = .ok (.iinc 2 1, 3) := by decide +kernel
theorem dX8_dearest_42 : decode cX8_dearest 42 = .ok (.goto (-38), 3) := by decide +kernel
theorem dX8_dearest_45 : decode cX8_dearest 45 = .ok (.iload_n 1, 1) := by decide +kernel
theorem dX8_dearest_46 : decode cX8_dearest 46 = .ok (.ireturn, 1) := by decide +kernel
theorem dX8_costOf_0 : decode cX8_costOf 0 = .ok (.iload_n 1, 1) := by decide +kernel
theorem dX8_costOf_1 : decode cX8_costOf 1 = .ok (.ifCond .lt 19, 3) := by decide +kernel
theorem dX8_costOf_4 : decode cX8_costOf 4 = .ok (.iload_n 1, 1) := by decide +kernel
theorem dX8_costOf_5 : decode cX8_costOf 5 = .ok (.sipush 256, 3) := by decide +kernel
theorem dX8_costOf_8 : decode cX8_costOf 8 = .ok (.if_icmp .ge 12, 3) := by decide +kernel
theorem dX8_costOf_11 : decode cX8_costOf 11 = .ok (.aload_n 0, 1) := by decide +kernel
theorem dX8_costOf_12 : decode cX8_costOf 12 = .ok (.getfield 11, 3) := by decide +kernel
theorem dX8_costOf_15 : decode cX8_costOf 15 = .ok (.iload_n 1, 1) := by decide +kernel
theorem dX8_costOf_16 : decode cX8_costOf 16 = .ok (.iaload, 1) := by decide +kernel
theorem dX8_costOf_17 : decode cX8_costOf 17 = .ok (.goto 4, 3) := by decide +kernel
theorem dX8_costOf_20 : decode cX8_costOf 20 = .ok (.iconst 0, 1) := by decide +kernel
theorem dX8_costOf_21 : decode cX8_costOf 21 = .ok (.ireturn, 1) := by decide +kernel
theorem dX9_init_0 : decode cX9_init 0 = .ok (.aload_n 0, 1) := by decide +kernel
theorem dX9_init_1 : decode cX9_init 1 = .ok (.invokespecial 3, 3) := by decide +kernel
theorem dX9_init_4 : decode cX9_init 4 = .ok (.aload_n 0, 1) := by decide +kernel
theorem dX9_init_5 : decode cX9_init 5 = .ok (.bipush 8, 2) := by decide +kernel
theorem dX9_init_7 : decode cX9_init 7 = .ok (.bipush 8, 2) := by decide +kernel
theorem dX9_init_9 : decode cX9_init 9 = .ok (.multianewarray 9 2, 4) := by decide +kernel
theorem dX9_init_13 : decode cX9_init 13 = .ok (.putfield 11, 3) := by decide +kernel
theorem dX9_init_16 : decode cX9_init 16 = .ok (.aload_n 0, 1) := by decide +kernel
theorem dX9_init_17 : decode cX9_init 17 = .ok (.new 16, 3) := by decide +kernel
theorem dX9_init_20 : decode cX9_init 20 = .ok (.dup, 1) := by decide +kernel
theorem dX9_init_21 : decode cX9_init 21 = .ok (.invokespecial 18, 3) := by decide +kernel
theorem dX9_init_24 : decode cX9_init 24 = .ok (.putfield 19, 3) := by decide +kernel
theorem dX9_init_27 : decode cX9_init 27 = .ok (.aload_n 0, 1) := by decide +kernel
theorem dX9_init_28 : decode cX9_init 28 = .ok (.iconst 1, 1) := by decide +kernel
theorem dX9_init_29 : decode cX9_init 29 = .ok (.putfield 23, 3) := by decide +kernel
theorem dX9_init_32 : decode cX9_init 32 = .ok (.iconst 0, 1) := by decide +kernel
theorem dX9_init_33 : decode cX9_init 33 = .ok (.istore_n 1, 1) := by decide +kernel
theorem dX9_init_34 : decode cX9_init 34 = .ok (.iload_n 1, 1) := by decide +kernel
theorem dX9_init_35 : decode cX9_init 35 = .ok (.bipush 8, 2) := by decide +kernel
theorem dX9_init_37 : decode cX9_init 37 = .ok (.if_icmp .ge 38, 3) := by decide +kernel
theorem dX9_init_40 : decode cX9_init 40 = .ok (.aload_n 0, 1) := by decide +kernel
theorem dX9_init_41 : decode cX9_init 41 = .ok (.getfield 11, 3) := by decide +kernel
theorem dX9_init_44 : decode cX9_init 44 = .ok (.iconst 5, 1) := by decide +kernel
theorem dX9_init_45 : decode cX9_init 45 = .ok (.aaload, 1) := by decide +kernel
theorem dX9_init_46 : decode cX9_init 46 = .ok (.iload_n 1, 1) := by decide +kernel
theorem dX9_init_47 : decode cX9_init 47 = .ok (.iconst 2, 1) := by decide +kernel
theorem dX9_init_48 : decode cX9_init 48 = .ok (.iastore, 1) := by decide +kernel
theorem dX9_init_49 : decode cX9_init 49 = .ok (.aload_n 0, 1) := by decide +kernel
theorem dX9_init_50 : decode cX9_init 50 = .ok (.getfield 11, 3) := by decide +kernel
theorem dX9_init_53 : decode cX9_init 53 = .ok (.bipush 6, 2) := by decide +kernel
theorem dX9_init_55 : decode cX9_init 55 = .ok (.aaload, 1) := by decide +kernel
theorem dX9_init_56 : decode cX9_init 56 = .ok (.iload_n 1, 1) := by decide +kernel
theorem dX9_init_57 : decode cX9_init 57 = .ok (.iconst 3, 1) := by decide +kernel
theorem dX9_init_58 : decode cX9_init 58 = .ok (.iastore, 1) := by decide +kernel
theorem dX9_init_59 : decode cX9_init 59 = .ok (.aload_n 0, 1) := by decide +kernel
theorem dX9_init_60 : decode cX9_init 60 = .ok (.getfield 11, 3) := by decide +kernel
theorem dX9_init_63 : decode cX9_init 63 = .ok (.bipush 7, 2) := by decide +kernel
theorem dX9_init_65 : decode cX9_init 65 = .ok (.aaload, 1) := by decide +kernel
theorem dX9_init_66 : decode cX9_init 66 = .ok (.iload_n 1, 1) := by decide +kernel
theorem dX9_init_67 : decode cX9_init 67 = .ok (.iconst 1, 1) := by decide +kernel
theorem dX9_init_68 : decode cX9_init 68 = .ok (.iastore, 1) := by decide +kernel
theorem dX9_init_69 : decode cX9_init 69 = .ok (.iinc 1 1, 3) := by decide +kernel
theorem dX9_init_72 : decode cX9_init 72 = .ok (.goto (-38), 3) := by decide +kernel
theorem dX9_init_75 : decode cX9_init 75 = .ok (.return_, 1) := by decide +kernel
theorem dX9_may_0 : decode cX9_may 0 = .ok (.iload_n 0, 1) := by decide +kernel
theorem dX9_may_1 : decode cX9_may 1 = .ok (.ifCond .lt 41, 3) := by decide +kernel
theorem dX9_may_4 : decode cX9_may 4 = .ok (.iload_n 0, 1) := by decide +kernel
theorem dX9_may_5 : decode cX9_may 5 = .ok (.getstatic 27, 3) := by decide +kernel
theorem dX9_may_8 : decode cX9_may 8 = .ok (.arraylength, 1) := by decide +kernel
theorem dX9_may_9 : decode cX9_may 9 = .ok (.if_icmp .ge 33, 3) := by decide +kernel
theorem dX9_may_12 : decode cX9_may 12 = .ok (.iload_n 0, 1) := by decide +kernel
theorem dX9_may_13 : decode cX9_may 13 = .ok (.getstatic 31, 3) := by decide +kernel
theorem dX9_may_16 : decode cX9_may 16 = .ok (.arraylength, 1) := by decide +kernel
theorem dX9_may_17 : decode cX9_may 17 = .ok (.if_icmp .ge 25, 3) := by decide +kernel
theorem dX9_may_20 : decode cX9_may 20 = .ok (.iload_n 1, 1) := by decide +kernel
theorem dX9_may_21 : decode cX9_may 21 = .ok (.getstatic 27, 3) := by decide +kernel
theorem dX9_may_24 : decode cX9_may 24 = .ok (.iload_n 0, 1) := by decide +kernel
theorem dX9_may_25 : decode cX9_may 25 = .ok (.iaload, 1) := by decide +kernel
theorem dX9_may_26 : decode cX9_may 26 = .ok (.if_icmp .lt 16, 3) := by decide +kernel
theorem dX9_may_29 : decode cX9_may 29 = .ok (.iload_n 1, 1) := by decide +kernel
theorem dX9_may_30 : decode cX9_may 30 = .ok (.getstatic 31, 3) := by decide +kernel
theorem dX9_may_33 : decode cX9_may 33 = .ok (.iload_n 0, 1) := by decide +kernel
theorem dX9_may_34 : decode cX9_may 34 = .ok (.iaload, 1) := by decide +kernel
theorem dX9_may_35 : decode cX9_may 35 = .ok (.if_icmp .gt 7, 3) := by decide +kernel
theorem dX9_may_38 : decode cX9_may 38 = .ok (.iconst 1, 1) := by decide +kernel
theorem dX9_may_39 : decode cX9_may 39 = .ok (.goto 4, 3) := by decide +kernel
theorem dX9_may_42 : decode cX9_may 42 = .ok (.iconst 0, 1) := by decide +kernel
theorem dX9_may_43 : decode cX9_may 43 = .ok (.ireturn, 1) := by decide +kernel
theorem dX9_has_0 : decode cX9_has 0 = .ok (.iload_n 1, 1) := by decide +kernel
theorem dX9_has_1 : decode cX9_has 1 = .ok (.ifCond .lt 13, 3) := by decide +kernel
theorem dX9_has_4 : decode cX9_has 4 = .ok (.iload_n 1, 1) := by decide +kernel
theorem dX9_has_5 : decode cX9_has 5 = .ok (.bipush 8, 2) := by decide +kernel
theorem dX9_has_7 : decode cX9_has 7 = .ok (.if_icmp .ge 7, 3) := by decide +kernel
theorem dX9_has_10 : decode cX9_has 10 = .ok (.iload_n 2, 1) := by decide +kernel
theorem dX9_has_11 : decode cX9_has 11 = .ok (.ifCond .ge 5, 3) := by decide +kernel
theorem dX9_has_14 : decode cX9_has 14 = .ok (.iconst 0, 1) := by decide +kernel
theorem dX9_has_15 : decode cX9_has 15 = .ok (.ireturn, 1) := by decide +kernel
theorem dX9_has_16 : decode cX9_has 16 = .ok (.iload_n 1, 1) := by decide +kernel
theorem dX9_has_17 : decode cX9_has 17 = .ok (.tableswitch 61 5 7 #[27, 39, 51], 27) := by decide +kernel
theorem dX9_has_44 : decode cX9_has 44 = .ok (.iload_n 2, 1) := by decide +kernel
theorem dX9_has_45 : decode cX9_has 45 = .ok (.bipush 6, 2) := by decide +kernel
theorem dX9_has_47 : decode cX9_has 47 = .ok (.if_icmp .ge 7, 3) := by decide +kernel
theorem dX9_has_50 : decode cX9_has 50 = .ok (.iconst 1, 1) := by decide +kernel
theorem dX9_has_51 : decode cX9_has 51 = .ok (.goto 4, 3) := by decide +kernel
theorem dX9_has_54 : decode cX9_has 54 = .ok (.iconst 0, 1) := by decide +kernel
theorem dX9_has_55 : decode cX9_has 55 = .ok (.ireturn, 1) := by decide +kernel
theorem dX9_has_56 : decode cX9_has 56 = .ok (.iload_n 2, 1) := by decide +kernel
theorem dX9_has_57 : decode cX9_has 57 = .ok (.bipush 6, 2) := by decide +kernel
theorem dX9_has_59 : decode cX9_has 59 = .ok (.if_icmp .ge 7, 3) := by decide +kernel
theorem dX9_has_62 : decode cX9_has 62 = .ok (.iconst 1, 1) := by decide +kernel
theorem dX9_has_63 : decode cX9_has 63 = .ok (.goto 4, 3) := by decide +kernel
theorem dX9_has_66 : decode cX9_has 66 = .ok (.iconst 0, 1) := by decide +kernel
theorem dX9_has_67 : decode cX9_has 67 = .ok (.ireturn, 1) := by decide +kernel
theorem dX9_has_68 : decode cX9_has 68 = .ok (.iload_n 2, 1) := by decide +kernel
theorem dX9_has_69 : decode cX9_has 69 = .ok (.ifCond .ne 7, 3) := by decide +kernel
theorem dX9_has_72 : decode cX9_has 72 = .ok (.iconst 1, 1) := by decide +kernel
theorem dX9_has_73 : decode cX9_has 73 = .ok (.goto 4, 3) := by decide +kernel
theorem dX9_has_76 : decode cX9_has 76 = .ok (.iconst 0, 1) := by decide +kernel
theorem dX9_has_77 : decode cX9_has 77 = .ok (.ireturn, 1) := by decide +kernel
theorem dX9_has_78 : decode cX9_has 78 = .ok (.iload_n 2, 1) := by decide +kernel
theorem dX9_has_79 : decode cX9_has 79 = .ok (.aload_n 0, 1) := by decide +kernel
theorem dX9_has_80 : decode cX9_has 80 = .ok (.getfield 34, 3) := by decide +kernel
theorem dX9_has_83 : decode cX9_has 83 = .ok (.if_icmp .ge 7, 3) := by decide +kernel
theorem dX9_has_86 : decode cX9_has 86 = .ok (.iconst 1, 1) := by decide +kernel
theorem dX9_has_87 : decode cX9_has 87 = .ok (.goto 4, 3) := by decide +kernel
theorem dX9_has_90 : decode cX9_has 90 = .ok (.iconst 0, 1) := by decide +kernel
theorem dX9_has_91 : decode cX9_has 91 = .ok (.ireturn, 1) := by decide +kernel
theorem dX9_value_0 : decode cX9_value 0 = .ok (.iload_n 1, 1) := by decide +kernel
theorem dX9_value_1 : decode cX9_value 1 = .ok (.ifCond .lt 19, 3) := by decide +kernel
theorem dX9_value_4 : decode cX9_value 4 = .ok (.iload_n 1, 1) := by decide +kernel
theorem dX9_value_5 : decode cX9_value 5 = .ok (.bipush 8, 2) := by decide +kernel
theorem dX9_value_7 : decode cX9_value 7 = .ok (.if_icmp .ge 13, 3) := by decide +kernel
theorem dX9_value_10 : decode cX9_value 10 = .ok (.iload_n 2, 1) := by decide +kernel
theorem dX9_value_11 : decode cX9_value 11 = .ok (.ifCond .lt 9, 3) := by decide +kernel
theorem dX9_value_14 : decode cX9_value 14 = .ok (.iload_n 2, 1) := by decide +kernel
theorem dX9_value_15 : decode cX9_value 15 = .ok (.bipush 8, 2) := by decide +kernel
theorem dX9_value_17 : decode cX9_value 17 = .ok (.if_icmp .lt 5, 3) := by decide +kernel
theorem dX9_value_20 : decode cX9_value 20 = .ok (.iconst 0, 1) := by decide +kernel
theorem dX9_value_21 : decode cX9_value 21 = .ok (.ireturn, 1) := by decide +kernel
theorem dX9_value_22 : decode cX9_value 22 = .ok (.aload_n 0, 1) := by decide +kernel
theorem dX9_value_23 : decode cX9_value 23 = .ok (.getfield 11, 3) := by decide +kernel
theorem dX9_value_26 : decode cX9_value 26 = .ok (.iload_n 1, 1) := by decide +kernel
theorem dX9_value_27 : decode cX9_value 27 = .ok (.aaload, 1) := by decide +kernel
theorem dX9_value_28 : decode cX9_value 28 = .ok (.iload_n 2, 1) := by decide +kernel
theorem dX9_value_29 : decode cX9_value 29 = .ok (.iaload, 1) := by decide +kernel
theorem dX9_value_30 : decode cX9_value 30 = .ok (.ireturn, 1) := by decide +kernel
theorem dX9_become_0 : decode cX9_become 0 = .ok (.iload_n 1, 1) := by decide +kernel
theorem dX9_become_1 : decode cX9_become 1 = .ok (.ifCond .lt 38, 3) := by decide +kernel
theorem dX9_become_4 : decode cX9_become 4 = .ok (.iload_n 1, 1) := by decide +kernel
theorem dX9_become_5 : decode cX9_become 5 = .ok (.bipush 8, 2) := by decide +kernel
theorem dX9_become_7 : decode cX9_become 7 = .ok (.if_icmp .ge 32, 3) := by decide +kernel
theorem dX9_become_10 : decode cX9_become 10 = .ok (.iload_n 2, 1) := by decide +kernel
theorem dX9_become_11 : decode cX9_become 11 = .ok (.ifCond .lt 28, 3) := by decide +kernel
theorem dX9_become_14 : decode cX9_become 14 = .ok (.iload_n 2, 1) := by decide +kernel
theorem dX9_become_15 : decode cX9_become 15 = .ok (.bipush 8, 2) := by decide +kernel
theorem dX9_become_17 : decode cX9_become 17 = .ok (.if_icmp .ge 22, 3) := by decide +kernel
theorem dX9_become_20 : decode cX9_become 20 = .ok (.aload_n 0, 1) := by decide +kernel
theorem dX9_become_21 : decode cX9_become 21 = .ok (.getfield 11, 3) := by decide +kernel
theorem dX9_become_24 : decode cX9_become 24 = .ok (.iload_n 1, 1) := by decide +kernel
theorem dX9_become_25 : decode cX9_become 25 = .ok (.aaload, 1) := by decide +kernel
theorem dX9_become_26 : decode cX9_become 26 = .ok (.iload_n 2, 1) := by decide +kernel
theorem dX9_become_27 : decode cX9_become 27 = .ok (.iload_n 3, 1) := by decide +kernel
theorem dX9_become_28 : decode cX9_become 28 = .ok (.iastore, 1) := by decide +kernel
theorem dX9_become_29 : decode cX9_become 29 = .ok (.aload_n 0, 1) := by decide +kernel
theorem dX9_become_30 : decode cX9_become 30 = .ok (.dup, 1) := by decide +kernel
theorem dX9_become_31 : decode cX9_become 31 = .ok (.getfield 23, 3) := by decide +kernel
theorem dX9_become_34 : decode cX9_become 34 = .ok (.iconst 1, 1) := by decide +kernel
theorem dX9_become_35 : decode cX9_become 35 = .ok (.iadd, 1) := by decide +kernel
theorem dX9_become_36 : decode cX9_become 36 = .ok (.putfield 23, 3) := by decide +kernel
theorem dX9_become_39 : decode cX9_become 39 = .ok (.return_, 1) := by decide +kernel
theorem dX9_add_0 : decode cX9_add 0 = .ok (.aload_n 0, 1) := by decide +kernel
theorem dX9_add_1 : decode cX9_add 1 = .ok (.getfield 34, 3) := by decide +kernel
theorem dX9_add_4 : decode cX9_add 4 = .ok (.bipush 8, 2) := by decide +kernel
theorem dX9_add_6 : decode cX9_add 6 = .ok (.if_icmp .lt 6, 3) := by decide +kernel
theorem dX9_add_9 : decode cX9_add 9 = .ok (.bipush (-3), 2) := by decide +kernel
theorem dX9_add_11 : decode cX9_add 11 = .ok (.ireturn, 1) := by decide +kernel
theorem dX9_add_12 : decode cX9_add 12 = .ok (.aload_n 0, 1) := by decide +kernel
theorem dX9_add_13 : decode cX9_add 13 = .ok (.dup, 1) := by decide +kernel
theorem dX9_add_14 : decode cX9_add 14 = .ok (.getfield 34, 3) := by decide +kernel
theorem dX9_add_17 : decode cX9_add 17 = .ok (.dup_x1, 1) := by decide +kernel
theorem dX9_add_18 : decode cX9_add 18 = .ok (.iconst 1, 1) := by decide +kernel
theorem dX9_add_19 : decode cX9_add 19 = .ok (.iadd, 1) := by decide +kernel
theorem dX9_add_20 : decode cX9_add 20 = .ok (.putfield 34, 3) := by decide +kernel
theorem dX9_add_23 : decode cX9_add 23 = .ok (.istore 5, 2) := by decide +kernel
theorem dX9_add_25 : decode cX9_add 25 = .ok (.aload_n 0, 1) := by decide +kernel
theorem dX9_add_26 : decode cX9_add 26 = .ok (.iconst 0, 1) := by decide +kernel
theorem dX9_add_27 : decode cX9_add 27 = .ok (.iload 5, 2) := by decide +kernel
theorem dX9_add_29 : decode cX9_add 29 = .ok (.iload_n 1, 1) := by decide +kernel
theorem dX9_add_30 : decode cX9_add 30 = .ok (.invokevirtual 37, 3) := by decide +kernel
theorem dX9_add_33 : decode cX9_add 33 = .ok (.aload_n 0, 1) := by decide +kernel
theorem dX9_add_34 : decode cX9_add 34 = .ok (.iconst 1, 1) := by decide +kernel
theorem dX9_add_35 : decode cX9_add 35 = .ok (.iload 5, 2) := by decide +kernel
theorem dX9_add_37 : decode cX9_add 37 = .ok (.iload_n 2, 1) := by decide +kernel
theorem dX9_add_38 : decode cX9_add 38 = .ok (.invokevirtual 37, 3) := by decide +kernel
theorem dX9_add_41 : decode cX9_add 41 = .ok (.aload_n 0, 1) := by decide +kernel
theorem dX9_add_42 : decode cX9_add 42 = .ok (.iconst 2, 1) := by decide +kernel
theorem dX9_add_43 : decode cX9_add 43 = .ok (.iload 5, 2) := by decide +kernel
theorem dX9_add_45 : decode cX9_add 45 = .ok (.iload_n 3, 1) := by decide +kernel
theorem dX9_add_46 : decode cX9_add 46 = .ok (.invokevirtual 37, 3) := by decide +kernel
theorem dX9_add_49 : decode cX9_add 49 = .ok (.aload_n 0, 1) := by decide +kernel
theorem dX9_add_50 : decode cX9_add 50 = .ok (.iconst 3, 1) := by decide +kernel
theorem dX9_add_51 : decode cX9_add 51 = .ok (.iload 5, 2) := by decide +kernel
theorem dX9_add_53 : decode cX9_add 53 = .ok (.iload 4, 2) := by decide +kernel
theorem dX9_add_55 : decode cX9_add 55 = .ok (.invokevirtual 37, 3) := by decide +kernel
theorem dX9_add_58 : decode cX9_add 58 = .ok (.iload 5, 2) := by decide +kernel
theorem dX9_add_60 : decode cX9_add 60 = .ok (.ireturn, 1) := by decide +kernel
theorem dX9_obey_0 : decode cX9_obey 0 = .ok (.aload_n 0, 1) := by decide +kernel
theorem dX9_obey_1 : decode cX9_obey 1 = .ok (.getfield 19, 3) := by decide +kernel
theorem dX9_obey_4 : decode cX9_obey 4 = .ok (.aload_n 1, 1) := by decide +kernel
theorem dX9_obey_5 : decode cX9_obey 5 = .ok (.getfield 41, 3) := by decide +kernel
theorem dX9_obey_8 : decode cX9_obey 8 = .ok (.aload_n 1, 1) := by decide +kernel
theorem dX9_obey_9 : decode cX9_obey 9 = .ok (.getfield 46, 3) := by decide +kernel
theorem dX9_obey_12 : decode cX9_obey 12 = .ok (.aload_n 1, 1) := by decide +kernel
theorem dX9_obey_13 : decode cX9_obey 13 = .ok (.getfield 48, 3) := by decide +kernel
theorem dX9_obey_16 : decode cX9_obey 16 = .ok (.invokevirtual 51, 3) := by decide +kernel
theorem dX9_obey_19 : decode cX9_obey 19 = .ok (.aload_n 0, 1) := by decide +kernel
theorem dX9_obey_20 : decode cX9_obey 20 = .ok (.dup, 1) := by decide +kernel
theorem dX9_obey_21 : decode cX9_obey 21 = .ok (.getfield 23, 3) := by decide +kernel
theorem dX9_obey_24 : decode cX9_obey 24 = .ok (.iconst 1, 1) := by decide +kernel
theorem dX9_obey_25 : decode cX9_obey 25 = .ok (.iadd, 1) := by decide +kernel
theorem dX9_obey_26 : decode cX9_obey 26 = .ok (.putfield 23, 3) := by decide +kernel
theorem dX9_obey_29 : decode cX9_obey 29 = .ok (.return_, 1) := by decide +kernel
theorem dX9_sets_0 : decode cX9_sets 0 = .ok (.iconst 1, 1) := by decide +kernel
theorem dX9_sets_1 : decode cX9_sets 1 = .ok (.aload_n 0, 1) := by decide +kernel
theorem dX9_sets_2 : decode cX9_sets 2 = .ok (.getfield 34, 3) := by decide +kernel
theorem dX9_sets_5 : decode cX9_sets 5 = .ok (.bipush 8, 2) := by decide +kernel
theorem dX9_sets_7 : decode cX9_sets 7 = .ok (.invokestatic 55, 3) := by decide +kernel
theorem dX9_sets_10 : decode cX9_sets 10 = .ok (.ishl, 1) := by decide +kernel
theorem dX9_sets_11 : decode cX9_sets 11 = .ok (.ireturn, 1) := by decide +kernel
theorem dX9_knows_0 : decode cX9_knows 0 = .ok (.iload_n 1, 1) := by decide +kernel
theorem dX9_knows_1 : decode cX9_knows 1 = .ok (.ifCond .lt 15, 3) := by decide +kernel
theorem dX9_knows_4 : decode cX9_knows 4 = .ok (.iload_n 1, 1) := by decide +kernel
theorem dX9_knows_5 : decode cX9_knows 5 = .ok (.aload_n 0, 1) := by decide +kernel
theorem dX9_knows_6 : decode cX9_knows 6 = .ok (.invokevirtual 61, 3) := by decide +kernel
theorem dX9_knows_9 : decode cX9_knows 9 = .ok (.if_icmp .ge 7, 3) := by decide +kernel
theorem dX9_knows_12 : decode cX9_knows 12 = .ok (.iconst 1, 1) := by decide +kernel
theorem dX9_knows_13 : decode cX9_knows 13 = .ok (.goto 4, 3) := by decide +kernel
theorem dX9_knows_16 : decode cX9_knows 16 = .ok (.iconst 0, 1) := by decide +kernel
theorem dX9_knows_17 : decode cX9_knows 17 = .ok (.ireturn, 1) := by decide +kernel
theorem dX9_worthOf_0 : decode cX9_worthOf 0 = .ok (.iconst 0, 1) := by decide +kernel
theorem dX9_worthOf_1 : decode cX9_worthOf 1 = .ok (.istore_n 2, 1) := by decide +kernel
theorem dX9_worthOf_2 : decode cX9_worthOf 2 = .ok (.iconst 0, 1) := by decide +kernel
theorem dX9_worthOf_3 : decode cX9_worthOf 3 = .ok (.istore_n 3, 1) := by decide +kernel
theorem dX9_worthOf_4 : decode cX9_worthOf 4 = .ok (.iload_n 3, 1) := by decide +kernel
theorem dX9_worthOf_5 : decode cX9_worthOf 5 = .ok (.bipush 8, 2) := by decide +kernel
theorem dX9_worthOf_7 : decode cX9_worthOf 7 = .ok (.if_icmp .ge 24, 3) := by decide +kernel
theorem dX9_worthOf_10 : decode cX9_worthOf 10 = .ok (.iload_n 2, 1) := by decide +kernel
theorem dX9_worthOf_11 : decode cX9_worthOf 11 = .ok (.iload_n 1, 1) := by decide +kernel
theorem dX9_worthOf_12 : decode cX9_worthOf 12 = .ok (.iload_n 3, 1) := by decide +kernel
theorem dX9_worthOf_13 : decode cX9_worthOf 13 = .ok (.ishr, 1) := by decide +kernel
theorem dX9_worthOf_14 : decode cX9_worthOf 14 = .ok (.iconst 1, 1) := by decide +kernel
theorem dX9_worthOf_15 : decode cX9_worthOf 15 = .ok (.iand, 1) := by decide +kernel
theorem dX9_worthOf_16 : decode cX9_worthOf 16 = .ok (.aload_n 0, 1) := by decide +kernel
theorem dX9_worthOf_17 : decode cX9_worthOf 17 = .ok (.iconst 3, 1) := by decide +kernel
theorem dX9_worthOf_18 : decode cX9_worthOf 18 = .ok (.iload_n 3, 1) := by decide +kernel
theorem dX9_worthOf_19 : decode cX9_worthOf 19 = .ok (.invokevirtual 65, 3) := by decide +kernel
theorem dX9_worthOf_22 : decode cX9_worthOf 22 = .ok (.imul, 1) := by decide +kernel
theorem dX9_worthOf_23 : decode cX9_worthOf 23 = .ok (.iadd, 1) := by decide +kernel
theorem dX9_worthOf_24 : decode cX9_worthOf 24 = .ok (.istore_n 2, 1) := by decide +kernel
theorem dX9_worthOf_25 : decode cX9_worthOf 25 = .ok (.iinc 3 1, 3) := by decide +kernel
theorem dX9_worthOf_28 : decode cX9_worthOf 28 = .ok (.goto (-24), 3) := by decide +kernel
theorem dX9_worthOf_31 : decode cX9_worthOf 31 = .ok (.iload_n 2, 1) := by decide +kernel
theorem dX9_worthOf_32 : decode cX9_worthOf 32 = .ok (.ireturn, 1) := by decide +kernel
theorem dX9_minutesTo_0 : decode cX9_minutesTo 0 = .ok (.iconst 0, 1) := by decide +kernel
theorem dX9_minutesTo_1 : decode cX9_minutesTo 1 = .ok (.istore_n 2, 1) := by decide +kernel
theorem dX9_minutesTo_2 : decode cX9_minutesTo 2 = .ok (.iconst 0, 1) := by decide +kernel
theorem dX9_minutesTo_3 : decode cX9_minutesTo 3 = .ok (.istore_n 3, 1) := by decide +kernel
theorem dX9_minutesTo_4 : decode cX9_minutesTo 4 = .ok (.iload_n 3, 1) := by decide +kernel
theorem dX9_minutesTo_5 : decode cX9_minutesTo 5 = .ok (.iload_n 1, 1) := by decide +kernel
theorem dX9_minutesTo_6 : decode cX9_minutesTo 6 = .ok (.if_icmp .ge 25, 3) := by decide +kernel
theorem dX9_minutesTo_9 : decode cX9_minutesTo 9 = .ok (.iload_n 3, 1) := by decide +kernel
theorem dX9_minutesTo_10 : decode cX9_minutesTo 10 = .ok (.bipush 6, 2) := by decide +kernel
theorem dX9_minutesTo_12 : decode cX9_minutesTo 12 = .ok (.if_icmp .ge 19, 3) := by decide +kernel
theorem dX9_minutesTo_15 : decode cX9_minutesTo 15 = .ok (.iload_n 2, 1) := by decide +kernel
theorem dX9_minutesTo_16 : decode cX9_minutesTo 16 = .ok (.aload_n 0, 1) := by decide +kernel
theorem dX9_minutesTo_17 : decode cX9_minutesTo 17 = .ok (.bipush 6, 2) := by decide +kernel
theorem dX9_minutesTo_19 : decode cX9_minutesTo 19 = .ok (.iload_n 3, 1) := by decide +kernel
theorem dX9_minutesTo_20 : decode cX9_minutesTo 20 = .ok (.invokevirtual 65, 3) := by decide +kernel
theorem dX9_minutesTo_23 : decode cX9_minutesTo 23 = .ok (.iadd, 1) := by decide +kernel
theorem dX9_minutesTo_24 : decode cX9_minutesTo 24 = .ok (.istore_n 2, 1) := by decide +kernel
theorem dX9_minutesTo_25 : decode cX9_minutesTo 25 = .ok (.iinc 3 1, 3) := by decide +kernel
theorem dX9_minutesTo_28 : decode cX9_minutesTo 28 = .ok (.goto (-24), 3) := by decide +kernel
theorem dX9_minutesTo_31 : decode cX9_minutesTo 31 = .ok (.iload_n 2, 1) := by decide +kernel
theorem dX9_minutesTo_32 : decode cX9_minutesTo 32 = .ok (.ireturn, 1) := by decide +kernel
theorem dX9_minutesAloud_0 : decode cX9_minutesAloud 0 = .ok (.aload_n 0, 1) := by decide +kernel
theorem dX9_minutesAloud_1 : decode cX9_minutesAloud 1 = .ok (.bipush 6, 2) := by decide +kernel
theorem dX9_minutesAloud_3 : decode cX9_minutesAloud 3 = .ok (.invokevirtual 68, 3) := by decide +kernel
theorem dX9_minutesAloud_6 : decode cX9_minutesAloud 6 = .ok (.istore_n 3, 1) := by decide +kernel
theorem dX9_minutesAloud_7 : decode cX9_minutesAloud 7 = .ok (.iload_n 1, 1) := by decide +kernel
theorem dX9_minutesAloud_8 : decode cX9_minutesAloud 8 = .ok (.ifCond .ne 5, 3) := by decide +kernel
theorem dX9_minutesAloud_11 : decode cX9_minutesAloud 11 = .ok (.iload_n 3, 1) := by decide +kernel
theorem dX9_minutesAloud_12 : decode cX9_minutesAloud 12 = .ok (.ireturn, 1) := by decide +kernel
theorem dX9_minutesAloud_13 : decode cX9_minutesAloud 13 = .ok (.iload_n 3, 1) := by decide +kernel
theorem dX9_minutesAloud_14 : decode cX9_minutesAloud 14 = .ok (.aload_n 0, 1) := by decide +kernel
theorem dX9_minutesAloud_15 : decode cX9_minutesAloud 15 = .ok (.getfield 19, 3) := by decide +kernel
theorem dX9_minutesAloud_18 : decode cX9_minutesAloud 18 = .ok (.iload_n 1, 1) := by decide +kernel
theorem dX9_minutesAloud_19 : decode cX9_minutesAloud 19 = .ok (.invokestatic 72, 3) := by decide +kernel
theorem dX9_minutesAloud_22 : decode cX9_minutesAloud 22 = .ok (.aload_n 0, 1) := by decide +kernel
theorem dX9_minutesAloud_23 : decode cX9_minutesAloud 23 = .ok (.iconst 5, 1) := by decide +kernel
theorem dX9_minutesAloud_24 : decode cX9_minutesAloud 24 = .ok (.iload_n 2, 1) := by decide +kernel
theorem dX9_minutesAloud_25 : decode cX9_minutesAloud 25 = .ok (.invokevirtual 65, 3) := by decide +kernel
theorem dX9_minutesAloud_28 : decode cX9_minutesAloud 28 = .ok (.iconst 0, 1) := by decide +kernel
theorem dX9_minutesAloud_29 : decode cX9_minutesAloud 29 = .ok (.aload_n 0, 1) := by decide +kernel
theorem dX9_minutesAloud_30 : decode cX9_minutesAloud 30 = .ok (.iload_n 1, 1) := by decide +kernel
theorem dX9_minutesAloud_31 : decode cX9_minutesAloud 31 = .ok (.invokevirtual 77, 3) := by decide +kernel
theorem dX9_minutesAloud_34 : decode cX9_minutesAloud 34 = .ok (.iconst 0, 1) := by decide +kernel
theorem dX9_minutesAloud_35 : decode cX9_minutesAloud 35 = .ok (.invokevirtual 80, 3) := by decide +kernel
theorem dX9_minutesAloud_38 : decode cX9_minutesAloud 38 = .ok (.iadd, 1) := by decide +kernel
theorem dX9_minutesAloud_39 : decode cX9_minutesAloud 39 = .ok (.ireturn, 1) := by decide +kernel
theorem dX9_broughtBy_0 : decode cX9_broughtBy 0 = .ok (.iconst 1, 1) := by decide +kernel
theorem dX9_broughtBy_1 : decode cX9_broughtBy 1 = .ok (.iload_n 1, 1) := by decide +kernel
theorem dX9_broughtBy_2 : decode cX9_broughtBy 2 = .ok (.ishl, 1) := by decide +kernel
theorem dX9_broughtBy_3 : decode cX9_broughtBy 3 = .ok (.istore_n 2, 1) := by decide +kernel
theorem dX9_broughtBy_4 : decode cX9_broughtBy 4 = .ok (.iconst 0, 1) := by decide +kernel
theorem dX9_broughtBy_5 : decode cX9_broughtBy 5 = .ok (.istore_n 3, 1) := by decide +kernel
theorem dX9_broughtBy_6 : decode cX9_broughtBy 6 = .ok (.iload_n 3, 1) := by decide +kernel
theorem dX9_broughtBy_7 : decode cX9_broughtBy 7 = .ok (.bipush 8, 2) := by decide +kernel
theorem dX9_broughtBy_9 : decode cX9_broughtBy 9 = .ok (.if_icmp .ge 52, 3) := by decide +kernel
theorem dX9_broughtBy_12 : decode cX9_broughtBy 12 = .ok (.iconst 0, 1) := by decide +kernel
theorem dX9_broughtBy_13 : decode cX9_broughtBy 13 = .ok (.istore 4, 2) := by decide +kernel
theorem dX9_broughtBy_15 : decode cX9_broughtBy 15 = .ok (.iload 4, 2) := by decide +kernel
theorem dX9_broughtBy_17 : decode cX9_broughtBy 17 = .ok (.bipush 8, 2) := by decide +kernel
theorem dX9_broughtBy_19 : decode cX9_broughtBy 19 = .ok (.if_icmp .ge 36, 3) := by decide +kernel
theorem dX9_broughtBy_22 : decode cX9_broughtBy 22 = .ok (.iload_n 2, 1) := by decide +kernel
theorem dX9_broughtBy_23 : decode cX9_broughtBy 23 = .ok (.iload 4, 2) := by decide +kernel
theorem dX9_broughtBy_25 : decode cX9_broughtBy 25 = .ok (.ishr, 1) := by decide +kernel
theorem dX9_broughtBy_26 : decode cX9_broughtBy 26 = .ok (.iconst 1, 1) := by decide +kernel
theorem dX9_broughtBy_27 : decode cX9_broughtBy 27 = .ok (.iand, 1) := by decide +kernel
theorem dX9_broughtBy_28 : decode cX9_broughtBy 28 = .ok (.iconst 1, 1) := by decide +kernel
theorem dX9_broughtBy_29 : decode cX9_broughtBy 29 = .ok (.if_icmp .ne 20, 3) := by decide +kernel
theorem dX9_broughtBy_32 : decode cX9_broughtBy 32 = .ok (.iload_n 2, 1) := by decide +kernel
theorem dX9_broughtBy_33 : decode cX9_broughtBy 33 = .ok (.aload_n 0, 1) := by decide +kernel
theorem dX9_broughtBy_34 : decode cX9_broughtBy 34 = .ok (.iconst 4, 1) := by decide +kernel
theorem dX9_broughtBy_35 : decode cX9_broughtBy 35 = .ok (.iload 4, 2) := by decide +kernel
theorem dX9_broughtBy_37 : decode cX9_broughtBy 37 = .ok (.invokevirtual 65, 3) := by decide +kernel
theorem dX9_broughtBy_40 : decode cX9_broughtBy 40 = .ok (.aload_n 0, 1) := by decide +kernel
theorem dX9_broughtBy_41 : decode cX9_broughtBy 41 = .ok (.invokevirtual 61, 3) := by decide +kernel
theorem dX9_broughtBy_44 : decode cX9_broughtBy 44 = .ok (.iconst 1, 1) := by decide +kernel
theorem dX9_broughtBy_45 : decode cX9_broughtBy 45 = .ok (.isub, 1) := by decide +kernel
theorem dX9_broughtBy_46 : decode cX9_broughtBy 46 = .ok (.iand, 1) := by decide +kernel
theorem dX9_broughtBy_47 : decode cX9_broughtBy 47 = .ok (.ior, 1) := by decide +kernel
theorem dX9_broughtBy_48 : decode cX9_broughtBy 48 = .ok (.istore_n 2, 1) := by decide +kernel
theorem dX9_broughtBy_49 : decode cX9_broughtBy 49 = .ok (.iinc 4 1, 3) := by decide +kernel
theorem dX9_broughtBy_52 : decode cX9_broughtBy 52 = .ok (.goto (-37), 3) := by decide +kernel
theorem dX9_broughtBy_55 : decode cX9_broughtBy 55 = .ok (.iinc 3 1, 3) := by decide +kernel
theorem dX9_broughtBy_58 : decode cX9_broughtBy 58 = .ok (.goto (-52), 3) := by decide +kernel
theorem dX9_broughtBy_61 : decode cX9_broughtBy 61 = .ok (.iload_n 2, 1) := by decide +kernel
theorem dX9_broughtBy_62 : decode cX9_broughtBy 62 = .ok (.ireturn, 1) := by decide +kernel
