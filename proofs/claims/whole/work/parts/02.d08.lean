theorem dX10_init_0 : decode cX10_init 0 = .ok (.aload_n 0, 1) := by decide +kernel
theorem dX10_init_1 : decode cX10_init 1 = .ok (.invokespecial 1, 3) := by decide +kernel
theorem dX10_init_4 : decode cX10_init 4 = .ok (.new 7, 3) := by decide +kernel
theorem dX10_init_7 : decode cX10_init 7 = .ok (.dup, 1) := by decide +kernel
theorem dX10_init_8 : decode cX10_init 8 = .ok (.invokespecial 9, 3) := by decide +kernel
theorem dX10_init_11 : decode cX10_init 11 = .ok (.astore_n 1, 1) := by decide +kernel
theorem dX10_init_12 : decode cX10_init 12 = .ok (.aload_n 0, 1) := by decide +kernel
theorem dX10_init_13 : decode cX10_init 13 = .ok (.aload_n 1, 1) := by decide +kernel
theorem dX10_init_14 : decode cX10_init 14 = .ok (.putfield 10, 3) := by decide +kernel
theorem dX10_init_17 : decode cX10_init 17 = .ok (.aload_n 0, 1) := by decide +kernel
theorem dX10_init_18 : decode cX10_init 18 = .ok (.new 16, 3) := by decide +kernel
theorem dX10_init_21 : decode cX10_init 21 = .ok (.dup, 1) := by decide +kernel
theorem dX10_init_22 : decode cX10_init 22 = .ok (.invokespecial 18, 3) := by decide +kernel
theorem dX10_init_25 : decode cX10_init 25 = .ok (.putfield 19, 3) := by decide +kernel
theorem dX10_init_28 : decode cX10_init 28 = .ok (.aload_n 0, 1) := by decide +kernel
theorem dX10_init_29 : decode cX10_init 29 = .ok (.new 23, 3) := by decide +kernel
theorem dX10_init_32 : decode cX10_init 32 = .ok (.dup, 1) := by decide +kernel
theorem dX10_init_33 : decode cX10_init 33 = .ok (.invokespecial 25, 3) := by decide +kernel
theorem dX10_init_36 : decode cX10_init 36 = .ok (.putfield 26, 3) := by decide +kernel
theorem dX10_init_39 : decode cX10_init 39 = .ok (.aload_n 0, 1) := by decide +kernel
theorem dX10_init_40 : decode cX10_init 40 = .ok (.new 30, 3) := by decide +kernel
theorem dX10_init_43 : decode cX10_init 43 = .ok (.dup, 1) := by decide +kernel
theorem dX10_init_44 : decode cX10_init 44 = .ok (.aload_n 1, 1) := by decide +kernel
theorem dX10_init_45 : decode cX10_init 45 = .ok (.invokespecial 32, 3) := by decide +kernel
theorem dX10_init_48 : decode cX10_init 48 = .ok (.putfield 35, 3) := by decide +kernel
theorem dX10_init_51 : decode cX10_init 51 = .ok (.aload_n 0, 1) := by decide +kernel
theorem dX10_init_52 : decode cX10_init 52 = .ok (.new 39, 3) := by decide +kernel
theorem dX10_init_55 : decode cX10_init 55 = .ok (.dup, 1) := by decide +kernel
theorem dX10_init_56 : decode cX10_init 56 = .ok (.aload_n 1, 1) := by decide +kernel
theorem dX10_init_57 : decode cX10_init 57 = .ok (.invokespecial 41, 3) := by decide +kernel
theorem dX10_init_60 : decode cX10_init 60 = .ok (.putfield 42, 3) := by decide +kernel
theorem dX10_init_63 : decode cX10_init 63 = .ok (.aload_n 0, 1) := by decide +kernel
theorem dX10_init_64 : decode cX10_init 64 = .ok (.new 46, 3) := by decide +kernel
theorem dX10_init_67 : decode cX10_init 67 = .ok (.dup, 1) := by decide +kernel
theorem dX10_init_68 : decode cX10_init 68 = .ok (.invokespecial 48, 3) := by decide +kernel
theorem dX10_init_71 : decode cX10_init 71 = .ok (.putfield 49, 3) := by decide +kernel
theorem dX10_init_74 : decode cX10_init 74 = .ok (.aload_n 0, 1) := by decide +kernel
theorem dX10_init_75 : decode cX10_init 75 = .ok (.new 53, 3) := by decide +kernel
theorem dX10_init_78 : decode cX10_init 78 = .ok (.dup, 1) := by decide +kernel
theorem dX10_init_79 : decode cX10_init 79 = .ok (.aload_n 1, 1) := by decide +kernel
theorem dX10_init_80 : decode cX10_init 80 = .ok (.invokespecial 55, 3) := by decide +kernel
theorem dX10_init_83 : decode cX10_init 83 = .ok (.putfield 56, 3) := by decide +kernel
theorem dX10_init_86 : decode cX10_init 86 = .ok (.aload_n 0, 1) := by decide +kernel
theorem dX10_init_87 : decode cX10_init 87 = .ok (.new 60, 3) := by decide +kernel
theorem dX10_init_90 : decode cX10_init 90 = .ok (.dup, 1) := by decide +kernel
theorem dX10_init_91 : decode cX10_init 91 = .ok (.invokespecial 62, 3) := by decide +kernel
theorem dX10_init_94 : decode cX10_init 94 = .ok (.putfield 63, 3) := by decide +kernel
theorem dX10_init_97 : decode cX10_init 97 = .ok (.aload_n 0, 1) := by decide +kernel
theorem dX10_init_98 : decode cX10_init 98 = .ok (.bipush 6, 2) := by decide +kernel
theorem dX10_init_100 : decode cX10_init 100 = .ok (.anewarray 67, 3) := by decide +kernel
theorem dX10_init_103 : decode cX10_init 103 = .ok (.putfield 69, 3) := by decide +kernel
theorem dX10_init_106 : decode cX10_init 106 = .ok (.iconst 0, 1) := by decide +kernel
theorem dX10_init_107 : decode cX10_init 107 = .ok (.istore_n 2, 1) := by decide +kernel
theorem dX10_init_108 : decode cX10_init 108 = .ok (.iload_n 2, 1) := by decide +kernel
theorem dX10_init_109 : decode cX10_init 109 = .ok (.aload_n 0, 1) := by decide +kernel
theorem dX10_init_110 : decode cX10_init 110 = .ok (.getfield 69, 3) := by decide +kernel
theorem dX10_init_113 : decode cX10_init 113 = .ok (.arraylength, 1) := by decide +kernel
theorem dX10_init_114 : decode cX10_init 114 = .ok (.if_icmp .ge 22, 3) := by decide +kernel
theorem dX10_init_117 : decode cX10_init 117 = .ok (.aload_n 0, 1) := by decide +kernel
theorem dX10_init_118 : decode cX10_init 118 = .ok (.getfield 69, 3) := by decide +kernel
theorem dX10_init_121 : decode cX10_init 121 = .ok (.iload_n 2, 1) := by decide +kernel
theorem dX10_init_122 : decode cX10_init 122 = .ok (.new 67, 3) := by decide +kernel
theorem dX10_init_125 : decode cX10_init 125 = .ok (.dup, 1) := by decide +kernel
theorem dX10_init_126 : decode cX10_init 126 = .ok (.invokespecial 73, 3) := by decide +kernel
theorem dX10_init_129 : decode cX10_init 129 = .ok (.aastore, 1) := by decide +kernel
theorem dX10_init_130 : decode cX10_init 130 = .ok (.iinc 2 1, 3) := by decide +kernel
theorem dX10_init_133 : decode cX10_init 133 = .ok (.goto (-25), 3) := by decide +kernel
theorem dX10_init_136 : decode cX10_init 136 = .ok (.return_, 1) := by decide +kernel
theorem dX10_thing_0 : decode cX10_thing 0 = .ok (.iload_n 1, 1) := by decide +kernel
theorem dX10_thing_1 : decode cX10_thing 1 = .ok (.bipush 100, 2) := by decide +kernel
theorem dX10_thing_3 : decode cX10_thing 3 = .ok (.idiv, 1) := by decide +kernel
theorem dX10_thing_4 : decode cX10_thing 4 = .ok (.istore_n 3, 1) := by decide +kernel
theorem dX10_thing_5 : decode cX10_thing 5 = .ok (.iload_n 1, 1) := by decide +kernel
theorem dX10_thing_6 : decode cX10_thing 6 = .ok (.bipush 100, 2) := by decide +kernel
theorem dX10_thing_8 : decode cX10_thing 8 = .ok (.irem, 1) := by decide +kernel
theorem dX10_thing_9 : decode cX10_thing 9 = .ok (.istore 4, 2) := by decide +kernel
theorem dX10_thing_11 : decode cX10_thing 11 = .ok (.iload_n 1, 1) := by decide +kernel
theorem dX10_thing_12 : decode cX10_thing 12 = .ok (.ifCond .lt 28, 3) := by decide +kernel
theorem dX10_thing_15 : decode cX10_thing 15 = .ok (.iconst 0, 1) := by decide +kernel
theorem dX10_thing_16 : decode cX10_thing 16 = .ok (.iload_n 3, 1) := by decide +kernel
theorem dX10_thing_17 : decode cX10_thing 17 = .ok (.invokestatic 74, 3) := by decide +kernel
theorem dX10_thing_20 : decode cX10_thing 20 = .ok (.ifCond .eq 20, 3) := by decide +kernel
theorem dX10_thing_23 : decode cX10_thing 23 = .ok (.iconst 1, 1) := by decide +kernel
theorem dX10_thing_24 : decode cX10_thing 24 = .ok (.iload 4, 2) := by decide +kernel
theorem dX10_thing_26 : decode cX10_thing 26 = .ok (.invokestatic 74, 3) := by decide +kernel
theorem dX10_thing_29 : decode cX10_thing 29 = .ok (.ifCond .eq 11, 3) := by decide +kernel
theorem dX10_thing_32 : decode cX10_thing 32 = .ok (.iconst 2, 1) := by decide +kernel
theorem dX10_thing_33 : decode cX10_thing 33 = .ok (.iload_n 2, 1) := by decide +kernel
theorem dX10_thing_34 : decode cX10_thing 34 = .ok (.invokestatic 74, 3) := by decide +kernel
theorem dX10_thing_37 : decode cX10_thing 37 = .ok (.ifCond .ne 5, 3) := by decide +kernel
theorem dX10_thing_40 : decode cX10_thing 40 = .ok (.iconst (-1), 1) := by decide +kernel
theorem dX10_thing_41 : decode cX10_thing 41 = .ok (.ireturn, 1) := by decide +kernel
theorem dX10_thing_42 : decode cX10_thing 42 = .ok (.aload_n 0, 1) := by decide +kernel
theorem dX10_thing_43 : decode cX10_thing 43 = .ok (.getfield 10, 3) := by decide +kernel
theorem dX10_thing_46 : decode cX10_thing 46 = .ok (.iload_n 3, 1) := by decide +kernel
theorem dX10_thing_47 : decode cX10_thing 47 = .ok (.iload 4, 2) := by decide +kernel
theorem dX10_thing_49 : decode cX10_thing 49 = .ok (.iload_n 2, 1) := by decide +kernel
theorem dX10_thing_50 : decode cX10_thing 50 = .ok (.bipush 10, 2) := by decide +kernel
theorem dX10_thing_52 : decode cX10_thing 52 = .ok (.invokevirtual 78, 3) := by decide +kernel
theorem dX10_thing_55 : decode cX10_thing 55 = .ok (.ireturn, 1) := by decide +kernel
theorem dX10_things_0 : decode cX10_things 0 = .ok (.aload_n 0, 1) := by decide +kernel
theorem dX10_things_1 : decode cX10_things 1 = .ok (.iload_n 1, 1) := by decide +kernel
theorem dX10_things_2 : decode cX10_things 2 = .ok (.invokevirtual 82, 3) := by decide +kernel
theorem dX10_things_5 : decode cX10_things 5 = .ok (.astore 4, 2) := by decide +kernel
theorem dX10_things_7 : decode cX10_things 7 = .ok (.aload 4, 2) := by decide +kernel
theorem dX10_things_9 : decode cX10_things 9 = .ok (.ifnull 14, 3) := by decide +kernel
theorem dX10_things_12 : decode cX10_things 12 = .ok (.iload_n 3, 1) := by decide +kernel
theorem dX10_things_13 : decode cX10_things 13 = .ok (.iconst 1, 1) := by decide +kernel
theorem dX10_things_14 : decode cX10_things 14 = .ok (.if_icmp .lt 9, 3) := by decide +kernel
theorem dX10_things_17 : decode cX10_things 17 = .ok (.iload_n 3, 1) := by decide +kernel
theorem dX10_things_18 : decode cX10_things 18 = .ok (.bipush 8, 2) := by decide +kernel
theorem dX10_things_20 : decode cX10_things 20 = .ok (.if_icmp .le 5, 3) := by decide +kernel
theorem dX10_things_23 : decode cX10_things 23 = .ok (.iconst (-1), 1) := by decide +kernel
theorem dX10_things_24 : decode cX10_things 24 = .ok (.ireturn, 1) := by decide +kernel
theorem dX10_things_25 : decode cX10_things 25 = .ok (.aload 4, 2) := by decide +kernel
theorem dX10_things_27 : decode cX10_things 27 = .ok (.getfield 86, 3) := by decide +kernel
theorem dX10_things_30 : decode cX10_things 30 = .ok (.ifCond .ne 5, 3) := by decide +kernel
theorem dX10_things_33 : decode cX10_things 33 = .ok (.iconst 0, 1) := by decide +kernel
theorem dX10_things_34 : decode cX10_things 34 = .ok (.ireturn, 1) := by decide +kernel
theorem dX10_things_35 : decode cX10_things 35 = .ok (.aload 4, 2) := by decide +kernel
theorem dX10_things_37 : decode cX10_things 37 = .ok (.invokevirtual 90, 3) := by decide +kernel
theorem dX10_things_40 : decode cX10_things 40 = .ok (.ifCond .ne 6, 3) := by decide +kernel
theorem dX10_things_43 : decode cX10_things 43 = .ok (.bipush (-12), 2) := by decide +kernel
theorem dX10_things_45 : decode cX10_things 45 = .ok (.ireturn, 1) := by decide +kernel
theorem dX10_things_46 : decode cX10_things 46 = .ok (.iload_n 2, 1) := by decide +kernel
theorem dX10_things_47 : decode cX10_things 47 = .ok (.ifCond .lt 9, 3) := by decide +kernel
theorem dX10_things_50 : decode cX10_things 50 = .ok (.iload_n 2, 1) := by decide +kernel
theorem dX10_things_51 : decode cX10_things 51 = .ok (.bipush 60, 2) := by decide +kernel
theorem dX10_things_53 : decode cX10_things 53 = .ok (.if_icmp .lt 5, 3) := by decide +kernel
theorem dX10_things_56 : decode cX10_things 56 = .ok (.iconst 0, 1) := by decide +kernel
theorem dX10_things_57 : decode cX10_things 57 = .ok (.ireturn, 1) := by decide +kernel
theorem dX10_things_58 : decode cX10_things 58 = .ok (.iconst 0, 1) := by decide +kernel
theorem dX10_things_59 : decode cX10_things 59 = .ok (.istore 5, 2) := by decide +kernel
theorem dX10_things_61 : decode cX10_things 61 = .ok (.iconst 0, 1) := by decide +kernel
theorem dX10_things_62 : decode cX10_things 62 = .ok (.istore 6, 2) := by decide +kernel
theorem dX10_things_64 : decode cX10_things 64 = .ok (.iload 6, 2) := by decide +kernel
theorem dX10_things_66 : decode cX10_things 66 = .ok (.iload_n 3, 1) := by decide +kernel
theorem dX10_things_67 : decode cX10_things 67 = .ok (.if_icmp .ge 30, 3) := by decide +kernel
theorem dX10_things_70 : decode cX10_things 70 = .ok (.aload_n 0, 1) := by decide +kernel
theorem dX10_things_71 : decode cX10_things 71 = .ok (.aload 4, 2) := by decide +kernel
theorem dX10_things_73 : decode cX10_things 73 = .ok (.iload_n 2, 1) := by decide +kernel
theorem dX10_things_74 : decode cX10_things 74 = .ok (.iconst 4, 1) := by decide +kernel
theorem dX10_things_75 : decode cX10_things 75 = .ok (.iload 6, 2) := by decide +kernel
theorem dX10_things_77 : decode cX10_things 77 = .ok (.imul, 1) := by decide +kernel
theorem dX10_things_78 : decode cX10_things 78 = .ok (.iadd, 1) := by decide +kernel
theorem dX10_things_79 : decode cX10_things 79 = .ok (.invokevirtual 94, 3) := by decide +kernel
theorem dX10_things_82 : decode cX10_things 82 = .ok (.ifCond .ne 6, 3) := by decide +kernel
theorem dX10_things_85 : decode cX10_things 85 = .ok (.goto 12, 3) := by decide +kernel
theorem dX10_things_88 : decode cX10_things 88 = .ok (.iinc 5 1, 3) := by decide +kernel
theorem dX10_things_91 : decode cX10_things 91 = .ok (.iinc 6 1, 3) := by decide +kernel
theorem dX10_things_94 : decode cX10_things 94 = .ok (.goto (-30), 3) := by decide +kernel
theorem dX10_things_97 : decode cX10_things 97 = .ok (.iload 5, 2) := by decide +kernel
theorem dX10_things_99 : decode cX10_things 99 = .ok (.ireturn, 1) := by decide +kernel
theorem dX10_mend_0 : decode cX10_mend 0 = .ok (.aload_n 0, 1) := by decide +kernel
theorem dX10_mend_1 : decode cX10_mend 1 = .ok (.getfield 10, 3) := by decide +kernel
theorem dX10_mend_4 : decode cX10_mend 4 = .ok (.iload_n 2, 1) := by decide +kernel
theorem dX10_mend_5 : decode cX10_mend 5 = .ok (.iload_n 1, 1) := by decide +kernel
theorem dX10_mend_6 : decode cX10_mend 6 = .ok (.invokevirtual 98, 3) := by decide +kernel
theorem dX10_mend_9 : decode cX10_mend 9 = .ok (.ifCond .eq 11, 3) := by decide +kernel
theorem dX10_mend_12 : decode cX10_mend 12 = .ok (.iload_n 2, 1) := by decide +kernel
theorem dX10_mend_13 : decode cX10_mend 13 = .ok (.iload_n 3, 1) := by decide +kernel
theorem dX10_mend_14 : decode cX10_mend 14 = .ok (.invokestatic 74, 3) := by decide +kernel
theorem dX10_mend_17 : decode cX10_mend 17 = .ok (.ifCond .ne 5, 3) := by decide +kernel
theorem dX10_mend_20 : decode cX10_mend 20 = .ok (.iconst (-1), 1) := by decide +kernel
theorem dX10_mend_21 : decode cX10_mend 21 = .ok (.ireturn, 1) := by decide +kernel
theorem dX10_mend_22 : decode cX10_mend 22 = .ok (.aload_n 0, 1) := by decide +kernel
theorem dX10_mend_23 : decode cX10_mend 23 = .ok (.getfield 10, 3) := by decide +kernel
theorem dX10_mend_26 : decode cX10_mend 26 = .ok (.iload_n 2, 1) := by decide +kernel
theorem dX10_mend_27 : decode cX10_mend 27 = .ok (.iload_n 1, 1) := by decide +kernel
theorem dX10_mend_28 : decode cX10_mend 28 = .ok (.invokevirtual 101, 3) := by decide +kernel
theorem dX10_mend_31 : decode cX10_mend 31 = .ok (.istore 4, 2) := by decide +kernel
theorem dX10_mend_33 : decode cX10_mend 33 = .ok (.iload 4, 2) := by decide +kernel
theorem dX10_mend_35 : decode cX10_mend 35 = .ok (.iload_n 3, 1) := by decide +kernel
theorem dX10_mend_36 : decode cX10_mend 36 = .ok (.if_icmp .eq 25, 3) := by decide +kernel
theorem dX10_mend_39 : decode cX10_mend 39 = .ok (.aload_n 0, 1) := by decide +kernel
theorem dX10_mend_40 : decode cX10_mend 40 = .ok (.getfield 19, 3) := by decide +kernel
theorem dX10_mend_43 : decode cX10_mend 43 = .ok (.iload_n 2, 1) := by decide +kernel
theorem dX10_mend_44 : decode cX10_mend 44 = .ok (.iload_n 1, 1) := by decide +kernel
theorem dX10_mend_45 : decode cX10_mend 45 = .ok (.iload 4, 2) := by decide +kernel
theorem dX10_mend_47 : decode cX10_mend 47 = .ok (.iload_n 3, 1) := by decide +kernel
theorem dX10_mend_48 : decode cX10_mend 48 = .ok (.invokevirtual 105, 3) := by decide +kernel
theorem dX10_mend_51 : decode cX10_mend 51 = .ok (.aload_n 0, 1) := by decide +kernel
theorem dX10_mend_52 : decode cX10_mend 52 = .ok (.getfield 10, 3) := by decide +kernel
theorem dX10_mend_55 : decode cX10_mend 55 = .ok (.iload_n 2, 1) := by decide +kernel
theorem dX10_mend_56 : decode cX10_mend 56 = .ok (.iload_n 1, 1) := by decide +kernel
theorem dX10_mend_57 : decode cX10_mend 57 = .ok (.iload_n 3, 1) := by decide +kernel
theorem dX10_mend_58 : decode cX10_mend 58 = .ok (.invokevirtual 109, 3) := by decide +kernel
theorem dX10_mend_61 : decode cX10_mend 61 = .ok (.iload 4, 2) := by decide +kernel
theorem dX10_mend_63 : decode cX10_mend 63 = .ok (.ireturn, 1) := by decide +kernel
theorem dX10_of_0 : decode cX10_of 0 = .ok (.aload_n 0, 1) := by decide +kernel
theorem dX10_of_1 : decode cX10_of 1 = .ok (.getfield 10, 3) := by decide +kernel
theorem dX10_of_4 : decode cX10_of 4 = .ok (.iload_n 2, 1) := by decide +kernel
theorem dX10_of_5 : decode cX10_of 5 = .ok (.iload_n 1, 1) := by decide +kernel
theorem dX10_of_6 : decode cX10_of 6 = .ok (.invokevirtual 98, 3) := by decide +kernel
theorem dX10_of_9 : decode cX10_of 9 = .ok (.ifCond .eq 15, 3) := by decide +kernel
theorem dX10_of_12 : decode cX10_of 12 = .ok (.aload_n 0, 1) := by decide +kernel
theorem dX10_of_13 : decode cX10_of 13 = .ok (.getfield 10, 3) := by decide +kernel
theorem dX10_of_16 : decode cX10_of 16 = .ok (.iload_n 2, 1) := by decide +kernel
theorem dX10_of_17 : decode cX10_of 17 = .ok (.iload_n 1, 1) := by decide +kernel
theorem dX10_of_18 : decode cX10_of 18 = .ok (.invokevirtual 101, 3) := by decide +kernel
theorem dX10_of_21 : decode cX10_of 21 = .ok (.goto 4, 3) := by decide +kernel
theorem dX10_of_24 : decode cX10_of 24 = .ok (.iconst (-1), 1) := by decide +kernel
theorem dX10_of_25 : decode cX10_of 25 = .ok (.ireturn, 1) := by decide +kernel
theorem dX10_feed_0 : decode cX10_feed 0 = .ok (.iload_n 1, 1) := by decide +kernel
theorem dX10_feed_1 : decode cX10_feed 1 = .ok (.ifCond .lt 10, 3) := by decide +kernel
theorem dX10_feed_4 : decode cX10_feed 4 = .ok (.iload_n 1, 1) := by decide +kernel
theorem dX10_feed_5 : decode cX10_feed 5 = .ok (.sipush 255, 3) := by decide +kernel
theorem dX10_feed_8 : decode cX10_feed 8 = .ok (.if_icmp .le 7, 3) := by decide +kernel
theorem dX10_feed_11 : decode cX10_feed 11 = .ok (.iconst (-1), 1) := by decide +kernel
theorem dX10_feed_12 : decode cX10_feed 12 = .ok (.goto 11, 3) := by decide +kernel
theorem dX10_feed_15 : decode cX10_feed 15 = .ok (.aload_n 0, 1) := by decide +kernel
theorem dX10_feed_16 : decode cX10_feed 16 = .ok (.getfield 26, 3) := by decide +kernel
theorem dX10_feed_19 : decode cX10_feed 19 = .ok (.iload_n 1, 1) := by decide +kernel
theorem dX10_feed_20 : decode cX10_feed 20 = .ok (.invokevirtual 113, 3) := by decide +kernel
theorem dX10_feed_23 : decode cX10_feed 23 = .ok (.ireturn, 1) := by decide +kernel
theorem dX10_law_0 : decode cX10_law 0 = .ok (.aload_n 0, 1) := by decide +kernel
theorem dX10_law_1 : decode cX10_law 1 = .ok (.getfield 26, 3) := by decide +kernel
theorem dX10_law_4 : decode cX10_law 4 = .ok (.invokevirtual 117, 3) := by decide +kernel
theorem dX10_law_7 : decode cX10_law 7 = .ok (.istore_n 1, 1) := by decide +kernel
theorem dX10_law_8 : decode cX10_law 8 = .ok (.iload_n 1, 1) := by decide +kernel
theorem dX10_law_9 : decode cX10_law 9 = .ok (.ifCond .lt 8, 3) := by decide +kernel
theorem dX10_law_12 : decode cX10_law 12 = .ok (.bipush (-100), 2) := by decide +kernel
theorem dX10_law_14 : decode cX10_law 14 = .ok (.iload_n 1, 1) := by decide +kernel
theorem dX10_law_15 : decode cX10_law 15 = .ok (.isub, 1) := by decide +kernel
theorem dX10_law_16 : decode cX10_law 16 = .ok (.ireturn, 1) := by decide +kernel
theorem dX10_law_17 : decode cX10_law 17 = .ok (.aload_n 0, 1) := by decide +kernel
theorem dX10_law_18 : decode cX10_law 18 = .ok (.getfield 10, 3) := by decide +kernel
theorem dX10_law_21 : decode cX10_law 21 = .ok (.aload_n 0, 1) := by decide +kernel
theorem dX10_law_22 : decode cX10_law 22 = .ok (.getfield 26, 3) := by decide +kernel
theorem dX10_law_25 : decode cX10_law 25 = .ok (.invokevirtual 121, 3) := by decide +kernel
theorem dX10_law_28 : decode cX10_law 28 = .ok (.iconst 1, 1) := by decide +kernel
theorem dX10_law_29 : decode cX10_law 29 = .ok (.ireturn, 1) := by decide +kernel
theorem dX10_drive_0 : decode cX10_drive 0 = .ok (.aload_n 0, 1) := by decide +kernel
theorem dX10_drive_1 : decode cX10_drive 1 = .ok (.getfield 10, 3) := by decide +kernel
theorem dX10_drive_4 : decode cX10_drive 4 = .ok (.iload_n 1, 1) := by decide +kernel
theorem dX10_drive_5 : decode cX10_drive 5 = .ok (.invokevirtual 125, 3) := by decide +kernel
theorem dX10_drive_8 : decode cX10_drive 8 = .ok (.ifCond .eq 12, 3) := by decide +kernel
theorem dX10_drive_11 : decode cX10_drive 11 = .ok (.iload_n 2, 1) := by decide +kernel
theorem dX10_drive_12 : decode cX10_drive 12 = .ok (.ifCond .lt 8, 3) := by decide +kernel
theorem dX10_drive_15 : decode cX10_drive 15 = .ok (.iload_n 2, 1) := by decide +kernel
theorem dX10_drive_16 : decode cX10_drive 16 = .ok (.iconst 4, 1) := by decide +kernel
theorem dX10_drive_17 : decode cX10_drive 17 = .ok (.if_icmp .le 5, 3) := by decide +kernel
theorem dX10_drive_20 : decode cX10_drive 20 = .ok (.iconst (-1), 1) := by decide +kernel
theorem dX10_drive_21 : decode cX10_drive 21 = .ok (.ireturn, 1) := by decide +kernel
theorem dX10_drive_22 : decode cX10_drive 22 = .ok (.aload_n 0, 1) := by decide +kernel
theorem dX10_drive_23 : decode cX10_drive 23 = .ok (.getfield 35, 3) := by decide +kernel
theorem dX10_drive_26 : decode cX10_drive 26 = .ok (.iload_n 1, 1) := by decide +kernel
theorem dX10_drive_27 : decode cX10_drive 27 = .ok (.invokevirtual 129, 3) := by decide +kernel
theorem dX10_drive_30 : decode cX10_drive 30 = .ok (.iload_n 2, 1) := by decide +kernel
theorem dX10_drive_31 : decode cX10_drive 31 = .ok (.tableswitch 61 0 3 #[29, 37, 45, 53], 29) := by decide +kernel
theorem dX10_drive_60 : decode cX10_drive 60 = .ok (.aload_n 0, 1) := by decide +kernel
theorem dX10_drive_61 : decode cX10_drive 61 = .ok (.getfield 35, 3) := by decide +kernel
theorem dX10_drive_64 : decode cX10_drive 64 = .ok (.getfield 133, 3) := by decide +kernel
theorem dX10_drive_67 : decode cX10_drive 67 = .ok (.ireturn, 1) := by decide +kernel
theorem dX10_drive_68 : decode cX10_drive 68 = .ok (.aload_n 0, 1) := by decide +kernel
theorem dX10_drive_69 : decode cX10_drive 69 = .ok (.getfield 35, 3) := by decide +kernel
theorem dX10_drive_72 : decode cX10_drive 72 = .ok (.getfield 136, 3) := by decide +kernel
theorem dX10_drive_75 : decode cX10_drive 75 = .ok (.ireturn, 1) := by decide +kernel
theorem dX10_drive_76 : decode cX10_drive 76 = .ok (.aload_n 0, 1) := by decide +kernel
theorem dX10_drive_77 : decode cX10_drive 77 = .ok (.getfield 35, 3) := by decide +kernel
theorem dX10_drive_80 : decode cX10_drive 80 = .ok (.getfield 139, 3) := by decide +kernel
theorem dX10_drive_83 : decode cX10_drive 83 = .ok (.ireturn, 1) := by decide +kernel
theorem dX10_drive_84 : decode cX10_drive 84 = .ok (.aload_n 0, 1) := by decide +kernel
theorem dX10_drive_85 : decode cX10_drive 85 = .ok (.getfield 35, 3) := by decide +kernel
theorem dX10_drive_88 : decode cX10_drive 88 = .ok (.getfield 142, 3) := by decide +kernel
theorem dX10_drive_91 : decode cX10_drive 91 = .ok (.ireturn, 1) := by decide +kernel
theorem dX10_drive_92 : decode cX10_drive 92 = .ok (.aload_n 0, 1) := by decide +kernel
theorem dX10_drive_93 : decode cX10_drive 93 = .ok (.getfield 35, 3) := by decide +kernel
theorem dX10_drive_96 : decode cX10_drive 96 = .ok (.invokevirtual 145, 3) := by decide +kernel
theorem dX10_drive_99 : decode cX10_drive 99 = .ok (.ireturn, 1) := by decide +kernel
theorem dX10_going_0 : decode cX10_going 0 = .ok (.aload_n 0, 1) := by decide +kernel
theorem dX10_going_1 : decode cX10_going 1 = .ok (.getfield 10, 3) := by decide +kernel
theorem dX10_going_4 : decode cX10_going 4 = .ok (.iload_n 1, 1) := by decide +kernel
theorem dX10_going_5 : decode cX10_going 5 = .ok (.invokevirtual 125, 3) := by decide +kernel
theorem dX10_going_8 : decode cX10_going 8 = .ok (.ifCond .eq 16, 3) := by decide +kernel
theorem dX10_going_11 : decode cX10_going 11 = .ok (.iload_n 2, 1) := by decide +kernel
theorem dX10_going_12 : decode cX10_going 12 = .ok (.ifCond .lt 12, 3) := by decide +kernel
theorem dX10_going_15 : decode cX10_going 15 = .ok (.iload_n 3, 1) := by decide +kernel
theorem dX10_going_16 : decode cX10_going 16 = .ok (.ifCond .lt 8, 3) := by decide +kernel
theorem dX10_going_19 : decode cX10_going 19 = .ok (.iload_n 3, 1) := by decide +kernel
theorem dX10_going_20 : decode cX10_going 20 = .ok (.iconst 2, 1) := by decide +kernel
theorem dX10_going_21 : decode cX10_going 21 = .ok (.if_icmp .le 5, 3) := by decide +kernel
theorem dX10_going_24 : decode cX10_going 24 = .ok (.iconst (-1), 1) := by decide +kernel
theorem dX10_going_25 : decode cX10_going 25 = .ok (.ireturn, 1) := by decide +kernel
theorem dX10_going_26 : decode cX10_going 26 = .ok (.aload_n 0, 1) := by decide +kernel
theorem dX10_going_27 : decode cX10_going 27 = .ok (.getfield 35, 3) := by decide +kernel
theorem dX10_going_30 : decode cX10_going 30 = .ok (.iload_n 1, 1) := by decide +kernel
theorem dX10_going_31 : decode cX10_going 31 = .ok (.invokevirtual 129, 3) := by decide +kernel
theorem dX10_going_34 : decode cX10_going 34 = .ok (.iload_n 2, 1) := by decide +kernel
theorem dX10_going_35 : decode cX10_going 35 = .ok (.aload_n 0, 1) := by decide +kernel
theorem dX10_going_36 : decode cX10_going 36 = .ok (.getfield 35, 3) := by decide +kernel
theorem dX10_going_39 : decode cX10_going 39 = .ok (.getfield 136, 3) := by decide +kernel
theorem dX10_going_42 : decode cX10_going 42 = .ok (.if_icmp .ge 9, 3) := by decide +kernel
theorem dX10_going_45 : decode cX10_going 45 = .ok (.iload_n 2, 1) := by decide +kernel
theorem dX10_going_46 : decode cX10_going 46 = .ok (.bipush 8, 2) := by decide +kernel
theorem dX10_going_48 : decode cX10_going 48 = .ok (.if_icmp .lt 6, 3) := by decide +kernel
theorem dX10_going_51 : decode cX10_going 51 = .ok (.bipush (-2), 2) := by decide +kernel
theorem dX10_going_53 : decode cX10_going 53 = .ok (.ireturn, 1) := by decide +kernel
theorem dX10_going_54 : decode cX10_going 54 = .ok (.iload_n 3, 1) := by decide +kernel
theorem dX10_going_55 : decode cX10_going 55 = .ok (.lookupswitch 45 #[(0, 25), (1, 35)], 25) := by decide +kernel
theorem dX10_going_80 : decode cX10_going 80 = .ok (.aload_n 0, 1) := by decide +kernel
theorem dX10_going_81 : decode cX10_going 81 = .ok (.getfield 35, 3) := by decide +kernel
theorem dX10_going_84 : decode cX10_going 84 = .ok (.getfield 148, 3) := by decide +kernel
theorem dX10_going_87 : decode cX10_going 87 = .ok (.iload_n 2, 1) := by decide +kernel
theorem dX10_going_88 : decode cX10_going 88 = .ok (.iaload, 1) := by decide +kernel
theorem dX10_going_89 : decode cX10_going 89 = .ok (.ireturn, 1) := by decide +kernel
theorem dX10_going_90 : decode cX10_going 90 = .ok (.aload_n 0, 1) := by decide +kernel
theorem dX10_going_91 : decode cX10_going 91 = .ok (.getfield 35, 3) := by decide +kernel
theorem dX10_going_94 : decode cX10_going 94 = .ok (.getfield 152, 3) := by decide +kernel
theorem dX10_going_97 : decode cX10_going 97 = .ok (.iload_n 2, 1) := by decide +kernel
theorem dX10_going_98 : decode cX10_going 98 = .ok (.iaload, 1) := by decide +kernel
theorem dX10_going_99 : decode cX10_going 99 = .ok (.ireturn, 1) := by decide +kernel
theorem dX10_going_100 : decode cX10_going 100 = .ok (.aload_n 0, 1) := by decide +kernel
theorem dX10_going_101 : decode cX10_going 101 = .ok (.getfield 35, 3) := by decide +kernel
theorem dX10_going_104 : decode cX10_going 104 = .ok (.getfield 155, 3) := by decide +kernel
theorem dX10_going_107 : decode cX10_going 107 = .ok (.iload_n 2, 1) := by decide +kernel
theorem dX10_going_108 : decode cX10_going 108 = .ok (.iaload, 1) := by decide +kernel
theorem dX10_going_109 : decode cX10_going 109 = .ok (.ireturn, 1) := by decide +kernel
theorem dX10_mean_0 : decode cX10_mean 0 = .ok (.iload_n 1, 1) := by decide +kernel
theorem dX10_mean_1 : decode cX10_mean 1 = .ok (.ifCond .lt 8, 3) := by decide +kernel
theorem dX10_mean_4 : decode cX10_mean 4 = .ok (.iload_n 1, 1) := by decide +kernel
theorem dX10_mean_5 : decode cX10_mean 5 = .ok (.iconst 1, 1) := by decide +kernel
theorem dX10_mean_6 : decode cX10_mean 6 = .ok (.if_icmp .le 7, 3) := by decide +kernel
theorem dX10_mean_9 : decode cX10_mean 9 = .ok (.ldc2_w 160, 3) := by decide +kernel
theorem dX10_mean_12 : decode cX10_mean 12 = .ok (.lreturn, 1) := by decide +kernel
theorem dX10_mean_13 : decode cX10_mean 13 = .ok (.aload_n 0, 1) := by decide +kernel
theorem dX10_mean_14 : decode cX10_mean 14 = .ok (.getfield 42, 3) := by decide +kernel
theorem dX10_mean_17 : decode cX10_mean 17 = .ok (.invokevirtual 162, 3) := by decide +kernel
theorem dX10_mean_20 : decode cX10_mean 20 = .ok (.aload_n 0, 1) := by decide +kernel
theorem dX10_mean_21 : decode cX10_mean 21 = .ok (.getfield 42, 3) := by decide +kernel
theorem dX10_mean_24 : decode cX10_mean 24 = .ok (.iconst 0, 1) := by decide +kernel
theorem dX10_mean_25 : decode cX10_mean 25 = .ok (.iconst 0, 1) := by decide +kernel
theorem dX10_mean_26 : decode cX10_mean 26 = .ok (.invokevirtual 165, 3) := by decide +kernel
theorem dX10_mean_29 : decode cX10_mean 29 = .ok (.aload_n 0, 1) := by decide +kernel
theorem dX10_mean_30 : decode cX10_mean 30 = .ok (.getfield 42, 3) := by decide +kernel
theorem dX10_mean_33 : decode cX10_mean 33 = .ok (.aload_n 0, 1) := by decide +kernel
theorem dX10_mean_34 : decode cX10_mean 34 = .ok (.getfield 42, 3) := by decide +kernel
theorem dX10_mean_37 : decode cX10_mean 37 = .ok (.invokevirtual 169, 3) := by decide +kernel
theorem dX10_mean_40 : decode cX10_mean 40 = .ok (.iload_n 1, 1) := by decide +kernel
theorem dX10_mean_41 : decode cX10_mean 41 = .ok (.invokevirtual 173, 3) := by decide +kernel
theorem dX10_mean_44 : decode cX10_mean 44 = .ok (.lreturn, 1) := by decide +kernel
theorem dX10_likely_0 : decode cX10_likely 0 = .ok (.iload_n 1, 1) := by decide +kernel
theorem dX10_likely_1 : decode cX10_likely 1 = .ok (.iconst (-1), 1) := by decide +kernel
theorem dX10_likely_2 : decode cX10_likely 2 = .ok (.if_icmp .lt 23, 3) := by decide +kernel
theorem dX10_likely_5 : decode cX10_likely 5 = .ok (.iload_n 1, 1) := by decide +kernel
theorem dX10_likely_6 : decode cX10_likely 6 = .ok (.aload_n 0, 1) := by decide +kernel
theorem dX10_likely_7 : decode cX10_likely 7 = .ok (.getfield 10, 3) := by decide +kernel
theorem dX10_likely_10 : decode cX10_likely 10 = .ok (.getfield 177, 3) := by decide +kernel
theorem dX10_likely_13 : decode cX10_likely 13 = .ok (.if_icmp .ge 12, 3) := by decide +kernel
theorem dX10_likely_16 : decode cX10_likely 16 = .ok (.iload_n 2, 1) := by decide +kernel
theorem dX10_likely_17 : decode cX10_likely 17 = .ok (.ifCond .lt 8, 3) := by decide +kernel
theorem dX10_likely_20 : decode cX10_likely 20 = .ok (.iload_n 2, 1) := by decide +kernel
theorem dX10_likely_21 : decode cX10_likely 21 = .ok (.iconst 1, 1) := by decide +kernel
theorem dX10_likely_22 : decode cX10_likely 22 = .ok (.if_icmp .le 7, 3) := by decide +kernel
theorem dX10_likely_25 : decode cX10_likely 25 = .ok (.ldc2_w 160, 3) := by decide +kernel
theorem dX10_likely_28 : decode cX10_likely 28 = .ok (.lreturn, 1) := by decide +kernel
theorem dX10_likely_29 : decode cX10_likely 29 = .ok (.aload_n 0, 1) := by decide +kernel
theorem dX10_likely_30 : decode cX10_likely 30 = .ok (.getfield 42, 3) := by decide +kernel
theorem dX10_likely_33 : decode cX10_likely 33 = .ok (.invokevirtual 162, 3) := by decide +kernel
theorem dX10_likely_36 : decode cX10_likely 36 = .ok (.aload_n 0, 1) := by decide +kernel
theorem dX10_likely_37 : decode cX10_likely 37 = .ok (.getfield 42, 3) := by decide +kernel
theorem dX10_likely_40 : decode cX10_likely 40 = .ok (.iconst 0, 1) := by decide +kernel
theorem dX10_likely_41 : decode cX10_likely 41 = .ok (.iconst 0, 1) := by decide +kernel
theorem dX10_likely_42 : decode cX10_likely 42 = .ok (.invokevirtual 165, 3) := by decide +kernel
theorem dX10_likely_45 : decode cX10_likely 45 = .ok (.iload_n 1, 1) := by decide +kernel
theorem dX10_likely_46 : decode cX10_likely 46 = .ok (.ifCond .ge 13, 3) := by decide +kernel
theorem dX10_likely_49 : decode cX10_likely 49 = .ok (.aload_n 0, 1) := by decide +kernel
theorem dX10_likely_50 : decode cX10_likely 50 = .ok (.getfield 42, 3) := by decide +kernel
theorem dX10_likely_53 : decode cX10_likely 53 = .ok (.invokevirtual 180, 3) := by decide +kernel
theorem dX10_likely_56 : decode cX10_likely 56 = .ok (.goto 13, 3) := by decide +kernel
theorem dX10_likely_59 : decode cX10_likely 59 = .ok (.aload_n 0, 1) := by decide +kernel
theorem dX10_likely_60 : decode cX10_likely 60 = .ok (.getfield 42, 3) := by decide +kernel
theorem dX10_likely_63 : decode cX10_likely 63 = .ok (.iconst 1, 1) := by decide +kernel
theorem dX10_likely_64 : decode cX10_likely 64 = .ok (.iload_n 1, 1) := by decide +kernel
theorem dX10_likely_65 : decode cX10_likely 65 = .ok (.ishl, 1) := by decide +kernel
theorem dX10_likely_66 : decode cX10_likely 66 = .ok (.invokevirtual 183, 3) := by decide +kernel
theorem dX10_likely_69 : decode cX10_likely 69 = .ok (.lstore_n 3, 1) := by decide +kernel
theorem dX10_likely_70 : decode cX10_likely 70 = .ok (.aload_n 0, 1) := by decide +kernel
theorem dX10_likely_71 : decode cX10_likely 71 = .ok (.getfield 42, 3) := by decide +kernel
theorem dX10_likely_74 : decode cX10_likely 74 = .ok (.lload_n 3, 1) := by decide +kernel
theorem dX10_likely_75 : decode cX10_likely 75 = .ok (.iload_n 2, 1) := by decide +kernel
theorem dX10_likely_76 : decode cX10_likely 76 = .ok (.invokevirtual 173, 3) := by decide +kernel
theorem dX10_likely_79 : decode cX10_likely 79 = .ok (.lreturn, 1) := by decide +kernel
theorem dX10_aloud_0 : decode cX10_aloud 0 = .ok (.aload_n 0, 1) := by decide +kernel
theorem dX10_aloud_1 : decode cX10_aloud 1 = .ok (.getfield 10, 3) := by decide +kernel
theorem dX10_aloud_4 : decode cX10_aloud 4 = .ok (.iload_n 1, 1) := by decide +kernel
theorem dX10_aloud_5 : decode cX10_aloud 5 = .ok (.invokevirtual 125, 3) := by decide +kernel
theorem dX10_aloud_8 : decode cX10_aloud 8 = .ok (.ifCond .eq 13, 3) := by decide +kernel
theorem dX10_aloud_11 : decode cX10_aloud 11 = .ok (.iload_n 2, 1) := by decide +kernel
theorem dX10_aloud_12 : decode cX10_aloud 12 = .ok (.ifCond .lt 9, 3) := by decide +kernel
theorem dX10_aloud_15 : decode cX10_aloud 15 = .ok (.iload_n 2, 1) := by decide +kernel
theorem dX10_aloud_16 : decode cX10_aloud 16 = .ok (.bipush 6, 2) := by decide +kernel
theorem dX10_aloud_18 : decode cX10_aloud 18 = .ok (.if_icmp .lt 5, 3) := by decide +kernel
theorem dX10_aloud_21 : decode cX10_aloud 21 = .ok (.iconst (-1), 1) := by decide +kernel
theorem dX10_aloud_22 : decode cX10_aloud 22 = .ok (.ireturn, 1) := by decide +kernel
theorem dX10_aloud_23 : decode cX10_aloud 23 = .ok (.aload_n 0, 1) := by decide +kernel
theorem dX10_aloud_24 : decode cX10_aloud 24 = .ok (.getfield 10, 3) := by decide +kernel
theorem dX10_aloud_27 : decode cX10_aloud 27 = .ok (.iload_n 1, 1) := by decide +kernel
theorem dX10_aloud_28 : decode cX10_aloud 28 = .ok (.iload_n 2, 1) := by decide +kernel
theorem dX10_aloud_29 : decode cX10_aloud 29 = .ok (.invokevirtual 187, 3) := by decide +kernel
