theorem dX11_isOne_50 : decode cX11_isOne 50 = .ok (.iconst 1, 1) := by decide +kernel
theorem dX11_isOne_51 : decode cX11_isOne 51 = .ok (.goto 4, 3) := by decide +kernel
theorem dX11_isOne_54 : decode cX11_isOne 54 = .ok (.iconst 0, 1) := by decide +kernel
theorem dX11_isOne_55 : decode cX11_isOne 55 = .ok (.ireturn, 1) := by decide +kernel
theorem dX11_mayBe_0 : decode cX11_mayBe 0 = .ok (.iload_n 0, 1) := by decide +kernel
theorem dX11_mayBe_1 : decode cX11_mayBe 1 = .ok (.tableswitch 99 0 6 #[43, 50, 58, 66, 74, 83, 91], 43) := by decide +kernel
theorem dX11_mayBe_44 : decode cX11_mayBe 44 = .ok (.iload_n 1, 1) := by decide +kernel
theorem dX11_mayBe_45 : decode cX11_mayBe 45 = .ok (.iconst 0, 1) := by decide +kernel
theorem dX11_mayBe_46 : decode cX11_mayBe 46 = .ok (.iconst 5, 1) := by decide +kernel
theorem dX11_mayBe_47 : decode cX11_mayBe 47 = .ok (.invokestatic 118, 3) := by decide +kernel
theorem dX11_mayBe_50 : decode cX11_mayBe 50 = .ok (.ireturn, 1) := by decide +kernel
theorem dX11_mayBe_51 : decode cX11_mayBe 51 = .ok (.iload_n 1, 1) := by decide +kernel
theorem dX11_mayBe_52 : decode cX11_mayBe 52 = .ok (.iconst 0, 1) := by decide +kernel
theorem dX11_mayBe_53 : decode cX11_mayBe 53 = .ok (.bipush 12, 2) := by decide +kernel
theorem dX11_mayBe_55 : decode cX11_mayBe 55 = .ok (.invokestatic 118, 3) := by decide +kernel
theorem dX11_mayBe_58 : decode cX11_mayBe 58 = .ok (.ireturn, 1) := by decide +kernel
theorem dX11_mayBe_59 : decode cX11_mayBe 59 = .ok (.iload_n 1, 1) := by decide +kernel
theorem dX11_mayBe_60 : decode cX11_mayBe 60 = .ok (.iconst 0, 1) := by decide +kernel
theorem dX11_mayBe_61 : decode cX11_mayBe 61 = .ok (.bipush 6, 2) := by decide +kernel
theorem dX11_mayBe_63 : decode cX11_mayBe 63 = .ok (.invokestatic 118, 3) := by decide +kernel
theorem dX11_mayBe_66 : decode cX11_mayBe 66 = .ok (.ireturn, 1) := by decide +kernel
theorem dX11_mayBe_67 : decode cX11_mayBe 67 = .ok (.iload_n 1, 1) := by decide +kernel
theorem dX11_mayBe_68 : decode cX11_mayBe 68 = .ok (.iconst 0, 1) := by decide +kernel
theorem dX11_mayBe_69 : decode cX11_mayBe 69 = .ok (.bipush 99, 2) := by decide +kernel
theorem dX11_mayBe_71 : decode cX11_mayBe 71 = .ok (.invokestatic 118, 3) := by decide +kernel
theorem dX11_mayBe_74 : decode cX11_mayBe 74 = .ok (.ireturn, 1) := by decide +kernel
theorem dX11_mayBe_75 : decode cX11_mayBe 75 = .ok (.iload_n 1, 1) := by decide +kernel
theorem dX11_mayBe_76 : decode cX11_mayBe 76 = .ok (.iconst 0, 1) := by decide +kernel
theorem dX11_mayBe_77 : decode cX11_mayBe 77 = .ok (.sipush 255, 3) := by decide +kernel
theorem dX11_mayBe_80 : decode cX11_mayBe 80 = .ok (.invokestatic 118, 3) := by decide +kernel
theorem dX11_mayBe_83 : decode cX11_mayBe 83 = .ok (.ireturn, 1) := by decide +kernel
theorem dX11_mayBe_84 : decode cX11_mayBe 84 = .ok (.iload_n 1, 1) := by decide +kernel
theorem dX11_mayBe_85 : decode cX11_mayBe 85 = .ok (.iconst 1, 1) := by decide +kernel
theorem dX11_mayBe_86 : decode cX11_mayBe 86 = .ok (.bipush 9, 2) := by decide +kernel
theorem dX11_mayBe_88 : decode cX11_mayBe 88 = .ok (.invokestatic 118, 3) := by decide +kernel
theorem dX11_mayBe_91 : decode cX11_mayBe 91 = .ok (.ireturn, 1) := by decide +kernel
theorem dX11_mayBe_92 : decode cX11_mayBe 92 = .ok (.iload_n 1, 1) := by decide +kernel
theorem dX11_mayBe_93 : decode cX11_mayBe 93 = .ok (.iconst 1, 1) := by decide +kernel
theorem dX11_mayBe_94 : decode cX11_mayBe 94 = .ok (.bipush 20, 2) := by decide +kernel
theorem dX11_mayBe_96 : decode cX11_mayBe 96 = .ok (.invokestatic 118, 3) := by decide +kernel
theorem dX11_mayBe_99 : decode cX11_mayBe 99 = .ok (.ireturn, 1) := by decide +kernel
theorem dX11_mayBe_100 : decode cX11_mayBe 100 = .ok (.iload_n 1, 1) := by decide +kernel
theorem dX11_mayBe_101 : decode cX11_mayBe 101 = .ok (.iconst 0, 1) := by decide +kernel
theorem dX11_mayBe_102 : decode cX11_mayBe 102 = .ok (.bipush 9, 2) := by decide +kernel
theorem dX11_mayBe_104 : decode cX11_mayBe 104 = .ok (.invokestatic 118, 3) := by decide +kernel
theorem dX11_mayBe_107 : decode cX11_mayBe 107 = .ok (.ireturn, 1) := by decide +kernel
theorem dX11_mend_0 : decode cX11_mend 0 = .ok (.aload_n 0, 1) := by decide +kernel
theorem dX11_mend_1 : decode cX11_mend 1 = .ok (.iload_n 1, 1) := by decide +kernel
theorem dX11_mend_2 : decode cX11_mend 2 = .ok (.iload_n 2, 1) := by decide +kernel
theorem dX11_mend_3 : decode cX11_mend 3 = .ok (.invokevirtual 152, 3) := by decide +kernel
theorem dX11_mend_6 : decode cX11_mend 6 = .ok (.ifCond .eq 21, 3) := by decide +kernel
theorem dX11_mend_9 : decode cX11_mend 9 = .ok (.iload_n 2, 1) := by decide +kernel
theorem dX11_mend_10 : decode cX11_mend 10 = .ok (.iload_n 3, 1) := by decide +kernel
theorem dX11_mend_11 : decode cX11_mend 11 = .ok (.invokestatic 156, 3) := by decide +kernel
theorem dX11_mend_14 : decode cX11_mend 14 = .ok (.ifCond .eq 13, 3) := by decide +kernel
theorem dX11_mend_17 : decode cX11_mend 17 = .ok (.aload_n 0, 1) := by decide +kernel
theorem dX11_mend_18 : decode cX11_mend 18 = .ok (.iload_n 2, 1) := by decide +kernel
theorem dX11_mend_19 : decode cX11_mend 19 = .ok (.iload_n 1, 1) := by decide +kernel
theorem dX11_mend_20 : decode cX11_mend 20 = .ok (.iload_n 3, 1) := by decide +kernel
theorem dX11_mend_21 : decode cX11_mend 21 = .ok (.invokevirtual 159, 3) := by decide +kernel
theorem dX11_mend_24 : decode cX11_mend 24 = .ok (.goto 4, 3) := by decide +kernel
theorem dX11_mend_27 : decode cX11_mend 27 = .ok (.iconst (-1), 1) := by decide +kernel
theorem dX11_mend_28 : decode cX11_mend 28 = .ok (.ireturn, 1) := by decide +kernel
theorem dX11_of_0 : decode cX11_of 0 = .ok (.aload_n 0, 1) := by decide +kernel
theorem dX11_of_1 : decode cX11_of 1 = .ok (.iload_n 1, 1) := by decide +kernel
theorem dX11_of_2 : decode cX11_of 2 = .ok (.iload_n 2, 1) := by decide +kernel
theorem dX11_of_3 : decode cX11_of 3 = .ok (.invokevirtual 152, 3) := by decide +kernel
theorem dX11_of_6 : decode cX11_of 6 = .ok (.ifCond .eq 12, 3) := by decide +kernel
theorem dX11_of_9 : decode cX11_of 9 = .ok (.aload_n 0, 1) := by decide +kernel
theorem dX11_of_10 : decode cX11_of 10 = .ok (.iload_n 2, 1) := by decide +kernel
theorem dX11_of_11 : decode cX11_of 11 = .ok (.iload_n 1, 1) := by decide +kernel
theorem dX11_of_12 : decode cX11_of 12 = .ok (.invokevirtual 135, 3) := by decide +kernel
theorem dX11_of_15 : decode cX11_of 15 = .ok (.goto 4, 3) := by decide +kernel
theorem dX11_of_18 : decode cX11_of 18 = .ok (.iconst (-1), 1) := by decide +kernel
theorem dX11_of_19 : decode cX11_of 19 = .ok (.ireturn, 1) := by decide +kernel
theorem dX11_feed_0 : decode cX11_feed 0 = .ok (.iload_n 1, 1) := by decide +kernel
theorem dX11_feed_1 : decode cX11_feed 1 = .ok (.iconst 0, 1) := by decide +kernel
theorem dX11_feed_2 : decode cX11_feed 2 = .ok (.sipush 255, 3) := by decide +kernel
theorem dX11_feed_5 : decode cX11_feed 5 = .ok (.invokestatic 118, 3) := by decide +kernel
theorem dX11_feed_8 : decode cX11_feed 8 = .ok (.ifCond .ne 5, 3) := by decide +kernel
theorem dX11_feed_11 : decode cX11_feed 11 = .ok (.iconst (-1), 1) := by decide +kernel
theorem dX11_feed_12 : decode cX11_feed 12 = .ok (.ireturn, 1) := by decide +kernel
theorem dX11_feed_13 : decode cX11_feed 13 = .ok (.aload_n 0, 1) := by decide +kernel
theorem dX11_feed_14 : decode cX11_feed 14 = .ok (.getfield 163, 3) := by decide +kernel
theorem dX11_feed_17 : decode cX11_feed 17 = .ok (.bipush 120, 2) := by decide +kernel
theorem dX11_feed_19 : decode cX11_feed 19 = .ok (.if_icmp .ne 6, 3) := by decide +kernel
theorem dX11_feed_22 : decode cX11_feed 22 = .ok (.bipush (-3), 2) := by decide +kernel
theorem dX11_feed_24 : decode cX11_feed 24 = .ok (.ireturn, 1) := by decide +kernel
theorem dX11_feed_25 : decode cX11_feed 25 = .ok (.aload_n 0, 1) := by decide +kernel
theorem dX11_feed_26 : decode cX11_feed 26 = .ok (.getfield 49, 3) := by decide +kernel
theorem dX11_feed_29 : decode cX11_feed 29 = .ok (.aload_n 0, 1) := by decide +kernel
theorem dX11_feed_30 : decode cX11_feed 30 = .ok (.getfield 163, 3) := by decide +kernel
theorem dX11_feed_33 : decode cX11_feed 33 = .ok (.iload_n 1, 1) := by decide +kernel
theorem dX11_feed_34 : decode cX11_feed 34 = .ok (.i2b, 1) := by decide +kernel
theorem dX11_feed_35 : decode cX11_feed 35 = .ok (.bastore, 1) := by decide +kernel
theorem dX11_feed_36 : decode cX11_feed 36 = .ok (.aload_n 0, 1) := by decide +kernel
theorem dX11_feed_37 : decode cX11_feed 37 = .ok (.dup, 1) := by decide +kernel
theorem dX11_feed_38 : decode cX11_feed 38 = .ok (.getfield 163, 3) := by decide +kernel
theorem dX11_feed_41 : decode cX11_feed 41 = .ok (.iconst 1, 1) := by decide +kernel
theorem dX11_feed_42 : decode cX11_feed 42 = .ok (.iadd, 1) := by decide +kernel
theorem dX11_feed_43 : decode cX11_feed 43 = .ok (.putfield 163, 3) := by decide +kernel
theorem dX11_feed_46 : decode cX11_feed 46 = .ok (.aload_n 0, 1) := by decide +kernel
theorem dX11_feed_47 : decode cX11_feed 47 = .ok (.getfield 163, 3) := by decide +kernel
theorem dX11_feed_50 : decode cX11_feed 50 = .ok (.ireturn, 1) := by decide +kernel
theorem dX11_look_0 : decode cX11_look 0 = .ok (.aload_n 0, 1) := by decide +kernel
theorem dX11_look_1 : decode cX11_look 1 = .ok (.getfield 166, 3) := by decide +kernel
theorem dX11_look_4 : decode cX11_look 4 = .ok (.aload_n 0, 1) := by decide +kernel
theorem dX11_look_5 : decode cX11_look 5 = .ok (.getfield 163, 3) := by decide +kernel
theorem dX11_look_8 : decode cX11_look 8 = .ok (.if_icmp .ge 15, 3) := by decide +kernel
theorem dX11_look_11 : decode cX11_look 11 = .ok (.aload_n 0, 1) := by decide +kernel
theorem dX11_look_12 : decode cX11_look 12 = .ok (.getfield 49, 3) := by decide +kernel
theorem dX11_look_15 : decode cX11_look 15 = .ok (.aload_n 0, 1) := by decide +kernel
theorem dX11_look_16 : decode cX11_look 16 = .ok (.getfield 166, 3) := by decide +kernel
theorem dX11_look_19 : decode cX11_look 19 = .ok (.baload, 1) := by decide +kernel
theorem dX11_look_20 : decode cX11_look 20 = .ok (.goto 4, 3) := by decide +kernel
theorem dX11_look_23 : decode cX11_look 23 = .ok (.iconst (-1), 1) := by decide +kernel
theorem dX11_look_24 : decode cX11_look 24 = .ok (.ireturn, 1) := by decide +kernel
theorem dX11_faulty_0 : decode cX11_faulty 0 = .ok (.aload_n 0, 1) := by decide +kernel
theorem dX11_faulty_1 : decode cX11_faulty 1 = .ok (.getfield 169, 3) := by decide +kernel
theorem dX11_faulty_4 : decode cX11_faulty 4 = .ok (.ifCond .ge 11, 3) := by decide +kernel
theorem dX11_faulty_7 : decode cX11_faulty 7 = .ok (.aload_n 0, 1) := by decide +kernel
theorem dX11_faulty_8 : decode cX11_faulty 8 = .ok (.aload_n 0, 1) := by decide +kernel
theorem dX11_faulty_9 : decode cX11_faulty 9 = .ok (.getfield 166, 3) := by decide +kernel
theorem dX11_faulty_12 : decode cX11_faulty 12 = .ok (.putfield 169, 3) := by decide +kernel
theorem dX11_faulty_15 : decode cX11_faulty 15 = .ok (.return_, 1) := by decide +kernel
theorem dX11_addStep_0 : decode cX11_addStep 0 = .ok (.aload_n 0, 1) := by decide +kernel
theorem dX11_addStep_1 : decode cX11_addStep 1 = .ok (.getfield 53, 3) := by decide +kernel
theorem dX11_addStep_4 : decode cX11_addStep 4 = .ok (.sipush 130, 3) := by decide +kernel
theorem dX11_addStep_7 : decode cX11_addStep 7 = .ok (.aload_n 0, 1) := by decide +kernel
theorem dX11_addStep_8 : decode cX11_addStep 8 = .ok (.getfield 172, 3) := by decide +kernel
theorem dX11_addStep_11 : decode cX11_addStep 11 = .ok (.iadd, 1) := by decide +kernel
theorem dX11_addStep_12 : decode cX11_addStep 12 = .ok (.iload_n 1, 1) := by decide +kernel
theorem dX11_addStep_13 : decode cX11_addStep 13 = .ok (.i2b, 1) := by decide +kernel
theorem dX11_addStep_14 : decode cX11_addStep 14 = .ok (.bastore, 1) := by decide +kernel
theorem dX11_addStep_15 : decode cX11_addStep 15 = .ok (.aload_n 0, 1) := by decide +kernel
theorem dX11_addStep_16 : decode cX11_addStep 16 = .ok (.getfield 56, 3) := by decide +kernel
theorem dX11_addStep_19 : decode cX11_addStep 19 = .ok (.sipush 130, 3) := by decide +kernel
theorem dX11_addStep_22 : decode cX11_addStep 22 = .ok (.aload_n 0, 1) := by decide +kernel
theorem dX11_addStep_23 : decode cX11_addStep 23 = .ok (.getfield 172, 3) := by decide +kernel
theorem dX11_addStep_26 : decode cX11_addStep 26 = .ok (.iadd, 1) := by decide +kernel
theorem dX11_addStep_27 : decode cX11_addStep 27 = .ok (.iload_n 2, 1) := by decide +kernel
theorem dX11_addStep_28 : decode cX11_addStep 28 = .ok (.iastore, 1) := by decide +kernel
theorem dX11_addStep_29 : decode cX11_addStep 29 = .ok (.aload_n 0, 1) := by decide +kernel
theorem dX11_addStep_30 : decode cX11_addStep 30 = .ok (.dup, 1) := by decide +kernel
theorem dX11_addStep_31 : decode cX11_addStep 31 = .ok (.getfield 172, 3) := by decide +kernel
theorem dX11_addStep_34 : decode cX11_addStep 34 = .ok (.iconst 1, 1) := by decide +kernel
theorem dX11_addStep_35 : decode cX11_addStep 35 = .ok (.iadd, 1) := by decide +kernel
theorem dX11_addStep_36 : decode cX11_addStep 36 = .ok (.putfield 172, 3) := by decide +kernel
theorem dX11_addStep_39 : decode cX11_addStep 39 = .ok (.return_, 1) := by decide +kernel
theorem dX11_nameOf_0 : decode cX11_nameOf 0 = .ok (.iload_n 0, 1) := by decide +kernel
theorem dX11_nameOf_1 : decode cX11_nameOf 1 = .ok (.tableswitch 77 107 119 #[71, 77, 77, 67, 77, 69, 77, 77, 75, 77, 77, 77, 73], 67) := by decide +kernel
theorem dX11_nameOf_68 : decode cX11_nameOf 68 = .ok (.iconst 0, 1) := by decide +kernel
theorem dX11_nameOf_69 : decode cX11_nameOf 69 = .ok (.ireturn, 1) := by decide +kernel
theorem dX11_nameOf_70 : decode cX11_nameOf 70 = .ok (.iconst 1, 1) := by decide +kernel
theorem dX11_nameOf_71 : decode cX11_nameOf 71 = .ok (.ireturn, 1) := by decide +kernel
theorem dX11_nameOf_72 : decode cX11_nameOf 72 = .ok (.iconst 2, 1) := by decide +kernel
theorem dX11_nameOf_73 : decode cX11_nameOf 73 = .ok (.ireturn, 1) := by decide +kernel
theorem dX11_nameOf_74 : decode cX11_nameOf 74 = .ok (.iconst 3, 1) := by decide +kernel
theorem dX11_nameOf_75 : decode cX11_nameOf 75 = .ok (.ireturn, 1) := by decide +kernel
theorem dX11_nameOf_76 : decode cX11_nameOf 76 = .ok (.iconst 4, 1) := by decide +kernel
theorem dX11_nameOf_77 : decode cX11_nameOf 77 = .ok (.ireturn, 1) := by decide +kernel
theorem dX11_nameOf_78 : decode cX11_nameOf 78 = .ok (.iconst (-1), 1) := by decide +kernel
theorem dX11_nameOf_79 : decode cX11_nameOf 79 = .ok (.ireturn, 1) := by decide +kernel
theorem dX11_opens_0 : decode cX11_opens 0 = .ok (.aload_n 0, 1) := by decide +kernel
theorem dX11_opens_1 : decode cX11_opens 1 = .ok (.getfield 175, 3) := by decide +kernel
theorem dX11_opens_4 : decode cX11_opens 4 = .ok (.bipush 6, 2) := by decide +kernel
theorem dX11_opens_6 : decode cX11_opens 6 = .ok (.if_icmp .ne 9, 3) := by decide +kernel
theorem dX11_opens_9 : decode cX11_opens 9 = .ok (.aload_n 0, 1) := by decide +kernel
theorem dX11_opens_10 : decode cX11_opens 10 = .ok (.invokevirtual 178, 3) := by decide +kernel
theorem dX11_opens_13 : decode cX11_opens 13 = .ok (.iconst 0, 1) := by decide +kernel
theorem dX11_opens_14 : decode cX11_opens 14 = .ok (.ireturn, 1) := by decide +kernel
theorem dX11_opens_15 : decode cX11_opens 15 = .ok (.aload_n 0, 1) := by decide +kernel
theorem dX11_opens_16 : decode cX11_opens 16 = .ok (.dup, 1) := by decide +kernel
theorem dX11_opens_17 : decode cX11_opens 17 = .ok (.getfield 175, 3) := by decide +kernel
theorem dX11_opens_20 : decode cX11_opens 20 = .ok (.iconst 1, 1) := by decide +kernel
theorem dX11_opens_21 : decode cX11_opens 21 = .ok (.iadd, 1) := by decide +kernel
theorem dX11_opens_22 : decode cX11_opens 22 = .ok (.putfield 175, 3) := by decide +kernel
theorem dX11_opens_25 : decode cX11_opens 25 = .ok (.aload_n 0, 1) := by decide +kernel
theorem dX11_opens_26 : decode cX11_opens 26 = .ok (.dup, 1) := by decide +kernel
theorem dX11_opens_27 : decode cX11_opens 27 = .ok (.getfield 166, 3) := by decide +kernel
theorem dX11_opens_30 : decode cX11_opens 30 = .ok (.iconst 1, 1) := by decide +kernel
theorem dX11_opens_31 : decode cX11_opens 31 = .ok (.iadd, 1) := by decide +kernel
theorem dX11_opens_32 : decode cX11_opens 32 = .ok (.putfield 166, 3) := by decide +kernel
theorem dX11_opens_35 : decode cX11_opens 35 = .ok (.iconst 1, 1) := by decide +kernel
theorem dX11_opens_36 : decode cX11_opens 36 = .ok (.ireturn, 1) := by decide +kernel
theorem dX11_figure_0 : decode cX11_figure 0 = .ok (.iconst 0, 1) := by decide +kernel
theorem dX11_figure_1 : decode cX11_figure 1 = .ok (.istore_n 1, 1) := by decide +kernel
theorem dX11_figure_2 : decode cX11_figure 2 = .ok (.iconst 0, 1) := by decide +kernel
theorem dX11_figure_3 : decode cX11_figure 3 = .ok (.istore_n 2, 1) := by decide +kernel
theorem dX11_figure_4 : decode cX11_figure 4 = .ok (.iload_n 2, 1) := by decide +kernel
theorem dX11_figure_5 : decode cX11_figure 5 = .ok (.iconst 4, 1) := by decide +kernel
theorem dX11_figure_6 : decode cX11_figure 6 = .ok (.if_icmp .ge 46, 3) := by decide +kernel
theorem dX11_figure_9 : decode cX11_figure 9 = .ok (.aload_n 0, 1) := by decide +kernel
theorem dX11_figure_10 : decode cX11_figure 10 = .ok (.invokevirtual 181, 3) := by decide +kernel
theorem dX11_figure_13 : decode cX11_figure 13 = .ok (.bipush 48, 2) := by decide +kernel
theorem dX11_figure_15 : decode cX11_figure 15 = .ok (.bipush 57, 2) := by decide +kernel
theorem dX11_figure_17 : decode cX11_figure 17 = .ok (.invokestatic 118, 3) := by decide +kernel
theorem dX11_figure_20 : decode cX11_figure 20 = .ok (.ifCond .eq 32, 3) := by decide +kernel
theorem dX11_figure_23 : decode cX11_figure 23 = .ok (.bipush 10, 2) := by decide +kernel
theorem dX11_figure_25 : decode cX11_figure 25 = .ok (.iload_n 1, 1) := by decide +kernel
theorem dX11_figure_26 : decode cX11_figure 26 = .ok (.imul, 1) := by decide +kernel
theorem dX11_figure_27 : decode cX11_figure 27 = .ok (.aload_n 0, 1) := by decide +kernel
theorem dX11_figure_28 : decode cX11_figure 28 = .ok (.invokevirtual 181, 3) := by decide +kernel
theorem dX11_figure_31 : decode cX11_figure 31 = .ok (.iadd, 1) := by decide +kernel
theorem dX11_figure_32 : decode cX11_figure 32 = .ok (.bipush 48, 2) := by decide +kernel
theorem dX11_figure_34 : decode cX11_figure 34 = .ok (.isub, 1) := by decide +kernel
theorem dX11_figure_35 : decode cX11_figure 35 = .ok (.istore_n 1, 1) := by decide +kernel
theorem dX11_figure_36 : decode cX11_figure 36 = .ok (.iinc 2 1, 3) := by decide +kernel
theorem dX11_figure_39 : decode cX11_figure 39 = .ok (.aload_n 0, 1) := by decide +kernel
theorem dX11_figure_40 : decode cX11_figure 40 = .ok (.dup, 1) := by decide +kernel
theorem dX11_figure_41 : decode cX11_figure 41 = .ok (.getfield 166, 3) := by decide +kernel
theorem dX11_figure_44 : decode cX11_figure 44 = .ok (.iconst 1, 1) := by decide +kernel
theorem dX11_figure_45 : decode cX11_figure 45 = .ok (.iadd, 1) := by decide +kernel
theorem dX11_figure_46 : decode cX11_figure 46 = .ok (.putfield 166, 3) := by decide +kernel
theorem dX11_figure_49 : decode cX11_figure 49 = .ok (.goto (-45), 3) := by decide +kernel
theorem dX11_figure_52 : decode cX11_figure 52 = .ok (.iload_n 2, 1) := by decide +kernel
theorem dX11_figure_53 : decode cX11_figure 53 = .ok (.ifCond .eq 17, 3) := by decide +kernel
theorem dX11_figure_56 : decode cX11_figure 56 = .ok (.aload_n 0, 1) := by decide +kernel
theorem dX11_figure_57 : decode cX11_figure 57 = .ok (.invokevirtual 181, 3) := by decide +kernel
theorem dX11_figure_60 : decode cX11_figure 60 = .ok (.bipush 48, 2) := by decide +kernel
theorem dX11_figure_62 : decode cX11_figure 62 = .ok (.bipush 57, 2) := by decide +kernel
theorem dX11_figure_64 : decode cX11_figure 64 = .ok (.invokestatic 118, 3) := by decide +kernel
theorem dX11_figure_67 : decode cX11_figure 67 = .ok (.ifCond .eq 7, 3) := by decide +kernel
theorem dX11_figure_70 : decode cX11_figure 70 = .ok (.aload_n 0, 1) := by decide +kernel
theorem dX11_figure_71 : decode cX11_figure 71 = .ok (.invokevirtual 178, 3) := by decide +kernel
theorem dX11_figure_74 : decode cX11_figure 74 = .ok (.aload_n 0, 1) := by decide +kernel
theorem dX11_figure_75 : decode cX11_figure 75 = .ok (.iconst 1, 1) := by decide +kernel
theorem dX11_figure_76 : decode cX11_figure 76 = .ok (.iload_n 1, 1) := by decide +kernel
theorem dX11_figure_77 : decode cX11_figure 77 = .ok (.invokevirtual 185, 3) := by decide +kernel
theorem dX11_figure_80 : decode cX11_figure 80 = .ok (.return_, 1) := by decide +kernel
theorem dX11_operand_0 : decode cX11_operand 0 = .ok (.aload_n 0, 1) := by decide +kernel
theorem dX11_operand_1 : decode cX11_operand 1 = .ok (.invokevirtual 181, 3) := by decide +kernel
theorem dX11_operand_4 : decode cX11_operand 4 = .ok (.istore_n 1, 1) := by decide +kernel
theorem dX11_operand_5 : decode cX11_operand 5 = .ok (.iload_n 1, 1) := by decide +kernel
theorem dX11_operand_6 : decode cX11_operand 6 = .ok (.invokestatic 189, 3) := by decide +kernel
theorem dX11_operand_9 : decode cX11_operand 9 = .ok (.ifCond .lt 25, 3) := by decide +kernel
theorem dX11_operand_12 : decode cX11_operand 12 = .ok (.aload_n 0, 1) := by decide +kernel
theorem dX11_operand_13 : decode cX11_operand 13 = .ok (.iconst 2, 1) := by decide +kernel
theorem dX11_operand_14 : decode cX11_operand 14 = .ok (.iload_n 1, 1) := by decide +kernel
theorem dX11_operand_15 : decode cX11_operand 15 = .ok (.invokestatic 189, 3) := by decide +kernel
theorem dX11_operand_18 : decode cX11_operand 18 = .ok (.invokevirtual 185, 3) := by decide +kernel
theorem dX11_operand_21 : decode cX11_operand 21 = .ok (.aload_n 0, 1) := by decide +kernel
theorem dX11_operand_22 : decode cX11_operand 22 = .ok (.dup, 1) := by decide +kernel
theorem dX11_operand_23 : decode cX11_operand 23 = .ok (.getfield 166, 3) := by decide +kernel
theorem dX11_operand_26 : decode cX11_operand 26 = .ok (.iconst 1, 1) := by decide +kernel
theorem dX11_operand_27 : decode cX11_operand 27 = .ok (.iadd, 1) := by decide +kernel
theorem dX11_operand_28 : decode cX11_operand 28 = .ok (.putfield 166, 3) := by decide +kernel
theorem dX11_operand_31 : decode cX11_operand 31 = .ok (.goto 123, 3) := by decide +kernel
theorem dX11_operand_34 : decode cX11_operand 34 = .ok (.iload_n 1, 1) := by decide +kernel
theorem dX11_operand_35 : decode cX11_operand 35 = .ok (.bipush 33, 2) := by decide +kernel
theorem dX11_operand_37 : decode cX11_operand 37 = .ok (.if_icmp .eq 9, 3) := by decide +kernel
theorem dX11_operand_40 : decode cX11_operand 40 = .ok (.iload_n 1, 1) := by decide +kernel
theorem dX11_operand_41 : decode cX11_operand 41 = .ok (.bipush 45, 2) := by decide +kernel
theorem dX11_operand_43 : decode cX11_operand 43 = .ok (.if_icmp .ne 44, 3) := by decide +kernel
theorem dX11_operand_46 : decode cX11_operand 46 = .ok (.aload_n 0, 1) := by decide +kernel
theorem dX11_operand_47 : decode cX11_operand 47 = .ok (.invokevirtual 193, 3) := by decide +kernel
theorem dX11_operand_50 : decode cX11_operand 50 = .ok (.ifCond .ne 4, 3) := by decide +kernel
theorem dX11_operand_53 : decode cX11_operand 53 = .ok (.return_, 1) := by decide +kernel
theorem dX11_operand_54 : decode cX11_operand 54 = .ok (.aload_n 0, 1) := by decide +kernel
theorem dX11_operand_55 : decode cX11_operand 55 = .ok (.invokevirtual 197, 3) := by decide +kernel
theorem dX11_operand_58 : decode cX11_operand 58 = .ok (.aload_n 0, 1) := by decide +kernel
theorem dX11_operand_59 : decode cX11_operand 59 = .ok (.dup, 1) := by decide +kernel
theorem dX11_operand_60 : decode cX11_operand 60 = .ok (.getfield 175, 3) := by decide +kernel
theorem dX11_operand_63 : decode cX11_operand 63 = .ok (.iconst 1, 1) := by decide +kernel
theorem dX11_operand_64 : decode cX11_operand 64 = .ok (.isub, 1) := by decide +kernel
theorem dX11_operand_65 : decode cX11_operand 65 = .ok (.putfield 175, 3) := by decide +kernel
theorem dX11_operand_68 : decode cX11_operand 68 = .ok (.aload_n 0, 1) := by decide +kernel
theorem dX11_operand_69 : decode cX11_operand 69 = .ok (.iload_n 1, 1) := by decide +kernel
theorem dX11_operand_70 : decode cX11_operand 70 = .ok (.bipush 33, 2) := by decide +kernel
theorem dX11_operand_72 : decode cX11_operand 72 = .ok (.if_icmp .ne 7, 3) := by decide +kernel
theorem dX11_operand_75 : decode cX11_operand 75 = .ok (.iconst 3, 1) := by decide +kernel
theorem dX11_operand_76 : decode cX11_operand 76 = .ok (.goto 4, 3) := by decide +kernel
theorem dX11_operand_79 : decode cX11_operand 79 = .ok (.iconst 4, 1) := by decide +kernel
theorem dX11_operand_80 : decode cX11_operand 80 = .ok (.iconst 0, 1) := by decide +kernel
theorem dX11_operand_81 : decode cX11_operand 81 = .ok (.invokevirtual 185, 3) := by decide +kernel
theorem dX11_operand_84 : decode cX11_operand 84 = .ok (.goto 70, 3) := by decide +kernel
theorem dX11_operand_87 : decode cX11_operand 87 = .ok (.iload_n 1, 1) := by decide +kernel
theorem dX11_operand_88 : decode cX11_operand 88 = .ok (.bipush 40, 2) := by decide +kernel
theorem dX11_operand_90 : decode cX11_operand 90 = .ok (.if_icmp .ne 60, 3) := by decide +kernel
theorem dX11_operand_93 : decode cX11_operand 93 = .ok (.aload_n 0, 1) := by decide +kernel
theorem dX11_operand_94 : decode cX11_operand 94 = .ok (.invokevirtual 193, 3) := by decide +kernel
theorem dX11_operand_97 : decode cX11_operand 97 = .ok (.ifCond .ne 4, 3) := by decide +kernel
theorem dX11_operand_100 : decode cX11_operand 100 = .ok (.return_, 1) := by decide +kernel
theorem dX11_operand_101 : decode cX11_operand 101 = .ok (.aload_n 0, 1) := by decide +kernel
theorem dX11_operand_102 : decode cX11_operand 102 = .ok (.invokevirtual 200, 3) := by decide +kernel
theorem dX11_operand_105 : decode cX11_operand 105 = .ok (.aload_n 0, 1) := by decide +kernel
theorem dX11_operand_106 : decode cX11_operand 106 = .ok (.getfield 169, 3) := by decide +kernel
theorem dX11_operand_109 : decode cX11_operand 109 = .ok (.ifCond .lt 4, 3) := by decide +kernel
theorem dX11_operand_112 : decode cX11_operand 112 = .ok (.return_, 1) := by decide +kernel
theorem dX11_operand_113 : decode cX11_operand 113 = .ok (.aload_n 0, 1) := by decide +kernel
theorem dX11_operand_114 : decode cX11_operand 114 = .ok (.invokevirtual 181, 3) := by decide +kernel
theorem dX11_operand_117 : decode cX11_operand 117 = .ok (.bipush 41, 2) := by decide +kernel
theorem dX11_operand_119 : decode cX11_operand 119 = .ok (.if_icmp .eq 8, 3) := by decide +kernel
theorem dX11_operand_122 : decode cX11_operand 122 = .ok (.aload_n 0, 1) := by decide +kernel
theorem dX11_operand_123 : decode cX11_operand 123 = .ok (.invokevirtual 178, 3) := by decide +kernel
theorem dX11_operand_126 : decode cX11_operand 126 = .ok (.return_, 1) := by decide +kernel
theorem dX11_operand_127 : decode cX11_operand 127 = .ok (.aload_n 0, 1) := by decide +kernel
theorem dX11_operand_128 : decode cX11_operand 128 = .ok (.dup, 1) := by decide +kernel
theorem dX11_operand_129 : decode cX11_operand 129 = .ok (.getfield 166, 3) := by decide +kernel
theorem dX11_operand_132 : decode cX11_operand 132 = .ok (.iconst 1, 1) := by decide +kernel
theorem dX11_operand_133 : decode cX11_operand 133 = .ok (.iadd, 1) := by decide +kernel
theorem dX11_operand_134 : decode cX11_operand 134 = .ok (.putfield 166, 3) := by decide +kernel
theorem dX11_operand_137 : decode cX11_operand 137 = .ok (.aload_n 0, 1) := by decide +kernel
theorem dX11_operand_138 : decode cX11_operand 138 = .ok (.dup, 1) := by decide +kernel
theorem dX11_operand_139 : decode cX11_operand 139 = .ok (.getfield 175, 3) := by decide +kernel
theorem dX11_operand_142 : decode cX11_operand 142 = .ok (.iconst 1, 1) := by decide +kernel
theorem dX11_operand_143 : decode cX11_operand 143 = .ok (.isub, 1) := by decide +kernel
theorem dX11_operand_144 : decode cX11_operand 144 = .ok (.putfield 175, 3) := by decide +kernel
theorem dX11_operand_147 : decode cX11_operand 147 = .ok (.goto 7, 3) := by decide +kernel
theorem dX11_operand_150 : decode cX11_operand 150 = .ok (.aload_n 0, 1) := by decide +kernel
theorem dX11_operand_151 : decode cX11_operand 151 = .ok (.invokevirtual 203, 3) := by decide +kernel
theorem dX11_operand_154 : decode cX11_operand 154 = .ok (.return_, 1) := by decide +kernel
theorem dX11_product_0 : decode cX11_product 0 = .ok (.aload_n 0, 1) := by decide +kernel
theorem dX11_product_1 : decode cX11_product 1 = .ok (.invokevirtual 197, 3) := by decide +kernel
theorem dX11_product_4 : decode cX11_product 4 = .ok (.aload_n 0, 1) := by decide +kernel
theorem dX11_product_5 : decode cX11_product 5 = .ok (.getfield 169, 3) := by decide +kernel
theorem dX11_product_8 : decode cX11_product 8 = .ok (.ifCond .ge 58, 3) := by decide +kernel
theorem dX11_product_11 : decode cX11_product 11 = .ok (.aload_n 0, 1) := by decide +kernel
theorem dX11_product_12 : decode cX11_product 12 = .ok (.invokevirtual 181, 3) := by decide +kernel
theorem dX11_product_15 : decode cX11_product 15 = .ok (.bipush 42, 2) := by decide +kernel
theorem dX11_product_17 : decode cX11_product 17 = .ok (.if_icmp .eq 21, 3) := by decide +kernel
theorem dX11_product_20 : decode cX11_product 20 = .ok (.aload_n 0, 1) := by decide +kernel
theorem dX11_product_21 : decode cX11_product 21 = .ok (.invokevirtual 181, 3) := by decide +kernel
theorem dX11_product_24 : decode cX11_product 24 = .ok (.bipush 47, 2) := by decide +kernel
theorem dX11_product_26 : decode cX11_product 26 = .ok (.if_icmp .eq 12, 3) := by decide +kernel
theorem dX11_product_29 : decode cX11_product 29 = .ok (.aload_n 0, 1) := by decide +kernel
theorem dX11_product_30 : decode cX11_product 30 = .ok (.invokevirtual 181, 3) := by decide +kernel
theorem dX11_product_33 : decode cX11_product 33 = .ok (.bipush 37, 2) := by decide +kernel
theorem dX11_product_35 : decode cX11_product 35 = .ok (.if_icmp .ne 31, 3) := by decide +kernel
theorem dX11_product_38 : decode cX11_product 38 = .ok (.aload_n 0, 1) := by decide +kernel
theorem dX11_product_39 : decode cX11_product 39 = .ok (.invokevirtual 181, 3) := by decide +kernel
theorem dX11_product_42 : decode cX11_product 42 = .ok (.istore_n 1, 1) := by decide +kernel
theorem dX11_product_43 : decode cX11_product 43 = .ok (.aload_n 0, 1) := by decide +kernel
theorem dX11_product_44 : decode cX11_product 44 = .ok (.dup, 1) := by decide +kernel
theorem dX11_product_45 : decode cX11_product 45 = .ok (.getfield 166, 3) := by decide +kernel
theorem dX11_product_48 : decode cX11_product 48 = .ok (.iconst 1, 1) := by decide +kernel
theorem dX11_product_49 : decode cX11_product 49 = .ok (.iadd, 1) := by decide +kernel
theorem dX11_product_50 : decode cX11_product 50 = .ok (.putfield 166, 3) := by decide +kernel
theorem dX11_product_53 : decode cX11_product 53 = .ok (.aload_n 0, 1) := by decide +kernel
theorem dX11_product_54 : decode cX11_product 54 = .ok (.invokevirtual 197, 3) := by decide +kernel
theorem dX11_product_57 : decode cX11_product 57 = .ok (.aload_n 0, 1) := by decide +kernel
theorem dX11_product_58 : decode cX11_product 58 = .ok (.iload_n 1, 1) := by decide +kernel
theorem dX11_product_59 : decode cX11_product 59 = .ok (.iconst 0, 1) := by decide +kernel
theorem dX11_product_60 : decode cX11_product 60 = .ok (.invokevirtual 185, 3) := by decide +kernel
theorem dX11_product_63 : decode cX11_product 63 = .ok (.goto (-59), 3) := by decide +kernel
theorem dX11_product_66 : decode cX11_product 66 = .ok (.return_, 1) := by decide +kernel
theorem dX11_sum_0 : decode cX11_sum 0 = .ok (.aload_n 0, 1) := by decide +kernel
theorem dX11_sum_1 : decode cX11_sum 1 = .ok (.invokevirtual 206, 3) := by decide +kernel
theorem dX11_sum_4 : decode cX11_sum 4 = .ok (.aload_n 0, 1) := by decide +kernel
theorem dX11_sum_5 : decode cX11_sum 5 = .ok (.getfield 169, 3) := by decide +kernel
theorem dX11_sum_8 : decode cX11_sum 8 = .ok (.ifCond .ge 49, 3) := by decide +kernel
theorem dX11_sum_11 : decode cX11_sum 11 = .ok (.aload_n 0, 1) := by decide +kernel
theorem dX11_sum_12 : decode cX11_sum 12 = .ok (.invokevirtual 181, 3) := by decide +kernel
theorem dX11_sum_15 : decode cX11_sum 15 = .ok (.bipush 43, 2) := by decide +kernel
theorem dX11_sum_17 : decode cX11_sum 17 = .ok (.if_icmp .eq 12, 3) := by decide +kernel
theorem dX11_sum_20 : decode cX11_sum 20 = .ok (.aload_n 0, 1) := by decide +kernel
theorem dX11_sum_21 : decode cX11_sum 21 = .ok (.invokevirtual 181, 3) := by decide +kernel
theorem dX11_sum_24 : decode cX11_sum 24 = .ok (.bipush 45, 2) := by decide +kernel
theorem dX11_sum_26 : decode cX11_sum 26 = .ok (.if_icmp .ne 31, 3) := by decide +kernel
theorem dX11_sum_29 : decode cX11_sum 29 = .ok (.aload_n 0, 1) := by decide +kernel
theorem dX11_sum_30 : decode cX11_sum 30 = .ok (.invokevirtual 181, 3) := by decide +kernel
theorem dX11_sum_33 : decode cX11_sum 33 = .ok (.istore_n 1, 1) := by decide +kernel
theorem dX11_sum_34 : decode cX11_sum 34 = .ok (.aload_n 0, 1) := by decide +kernel
theorem dX11_sum_35 : decode cX11_sum 35 = .ok (.dup, 1) := by decide +kernel
theorem dX11_sum_36 : decode cX11_sum 36 = .ok (.getfield 166, 3) := by decide +kernel
theorem dX11_sum_39 : decode cX11_sum 39 = .ok (.iconst 1, 1) := by decide +kernel
theorem dX11_sum_40 : decode cX11_sum 40 = .ok (.iadd, 1) := by decide +kernel
theorem dX11_sum_41 : decode cX11_sum 41 = .ok (.putfield 166, 3) := by decide +kernel
theorem dX11_sum_44 : decode cX11_sum 44 = .ok (.aload_n 0, 1) := by decide +kernel
theorem dX11_sum_45 : decode cX11_sum 45 = .ok (.invokevirtual 206, 3) := by decide +kernel
theorem dX11_sum_48 : decode cX11_sum 48 = .ok (.aload_n 0, 1) := by decide +kernel
theorem dX11_sum_49 : decode cX11_sum 49 = .ok (.iload_n 1, 1) := by decide +kernel
theorem dX11_sum_50 : decode cX11_sum 50 = .ok (.iconst 0, 1) := by decide +kernel
theorem dX11_sum_51 : decode cX11_sum 51 = .ok (.invokevirtual 185, 3) := by decide +kernel
theorem dX11_sum_54 : decode cX11_sum 54 = .ok (.goto (-50), 3) := by decide +kernel
theorem dX11_sum_57 : decode cX11_sum 57 = .ok (.return_, 1) := by decide +kernel
theorem dX11_compared_0 : decode cX11_compared 0 = .ok (.aload_n 0, 1) := by decide +kernel
theorem dX11_compared_1 : decode cX11_compared 1 = .ok (.invokevirtual 209, 3) := by decide +kernel
theorem dX11_compared_4 : decode cX11_compared 4 = .ok (.aload_n 0, 1) := by decide +kernel
theorem dX11_compared_5 : decode cX11_compared 5 = .ok (.invokevirtual 181, 3) := by decide +kernel
theorem dX11_compared_8 : decode cX11_compared 8 = .ok (.istore_n 1, 1) := by decide +kernel
theorem dX11_compared_9 : decode cX11_compared 9 = .ok (.aload_n 0, 1) := by decide +kernel
theorem dX11_compared_10 : decode cX11_compared 10 = .ok (.getfield 169, 3) := by decide +kernel
theorem dX11_compared_13 : decode cX11_compared 13 = .ok (.ifCond .ge 21, 3) := by decide +kernel
theorem dX11_compared_16 : decode cX11_compared 16 = .ok (.iload_n 1, 1) := by decide +kernel
theorem dX11_compared_17 : decode cX11_compared 17 = .ok (.bipush 60, 2) := by decide +kernel
theorem dX11_compared_19 : decode cX11_compared 19 = .ok (.if_icmp .eq 16, 3) := by decide +kernel
theorem dX11_compared_22 : decode cX11_compared 22 = .ok (.iload_n 1, 1) := by decide +kernel
theorem dX11_compared_23 : decode cX11_compared 23 = .ok (.bipush 61, 2) := by decide +kernel
theorem dX11_compared_25 : decode cX11_compared 25 = .ok (.if_icmp .eq 10, 3) := by decide +kernel
theorem dX11_compared_28 : decode cX11_compared 28 = .ok (.iload_n 1, 1) := by decide +kernel
theorem dX11_compared_29 : decode cX11_compared 29 = .ok (.bipush 62, 2) := by decide +kernel
theorem dX11_compared_31 : decode cX11_compared 31 = .ok (.if_icmp .eq 4, 3) := by decide +kernel
theorem dX11_compared_34 : decode cX11_compared 34 = .ok (.return_, 1) := by decide +kernel
theorem dX11_compared_35 : decode cX11_compared 35 = .ok (.aload_n 0, 1) := by decide +kernel
theorem dX11_compared_36 : decode cX11_compared 36 = .ok (.dup, 1) := by decide +kernel
theorem dX11_compared_37 : decode cX11_compared 37 = .ok (.getfield 166, 3) := by decide +kernel
theorem dX11_compared_40 : decode cX11_compared 40 = .ok (.iconst 1, 1) := by decide +kernel
theorem dX11_compared_41 : decode cX11_compared 41 = .ok (.iadd, 1) := by decide +kernel
theorem dX11_compared_42 : decode cX11_compared 42 = .ok (.putfield 166, 3) := by decide +kernel
