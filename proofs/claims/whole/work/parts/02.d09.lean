theorem dX10_aloud_32 : decode cX10_aloud 32 = .ok (.ireturn, 1) := by decide +kernel
theorem dX10_who_0 : decode cX10_who 0 = .ok (.aload_n 0, 1) := by decide +kernel
theorem dX10_who_1 : decode cX10_who 1 = .ok (.getfield 10, 3) := by decide +kernel
theorem dX10_who_4 : decode cX10_who 4 = .ok (.iload_n 1, 1) := by decide +kernel
theorem dX10_who_5 : decode cX10_who 5 = .ok (.invokevirtual 125, 3) := by decide +kernel
theorem dX10_who_8 : decode cX10_who 8 = .ok (.ifCond .ne 5, 3) := by decide +kernel
theorem dX10_who_11 : decode cX10_who 11 = .ok (.iconst (-1), 1) := by decide +kernel
theorem dX10_who_12 : decode cX10_who 12 = .ok (.ireturn, 1) := by decide +kernel
theorem dX10_who_13 : decode cX10_who 13 = .ok (.iconst 0, 1) := by decide +kernel
theorem dX10_who_14 : decode cX10_who 14 = .ok (.istore_n 2, 1) := by decide +kernel
theorem dX10_who_15 : decode cX10_who 15 = .ok (.iconst 1, 1) := by decide +kernel
theorem dX10_who_16 : decode cX10_who 16 = .ok (.istore_n 3, 1) := by decide +kernel
theorem dX10_who_17 : decode cX10_who 17 = .ok (.iload_n 3, 1) := by decide +kernel
theorem dX10_who_18 : decode cX10_who 18 = .ok (.bipush 6, 2) := by decide +kernel
theorem dX10_who_20 : decode cX10_who 20 = .ok (.if_icmp .ge 32, 3) := by decide +kernel
theorem dX10_who_23 : decode cX10_who 23 = .ok (.aload_n 0, 1) := by decide +kernel
theorem dX10_who_24 : decode cX10_who 24 = .ok (.getfield 10, 3) := by decide +kernel
theorem dX10_who_27 : decode cX10_who 27 = .ok (.iload_n 1, 1) := by decide +kernel
theorem dX10_who_28 : decode cX10_who 28 = .ok (.iload_n 3, 1) := by decide +kernel
theorem dX10_who_29 : decode cX10_who 29 = .ok (.invokevirtual 187, 3) := by decide +kernel
theorem dX10_who_32 : decode cX10_who 32 = .ok (.aload_n 0, 1) := by decide +kernel
theorem dX10_who_33 : decode cX10_who 33 = .ok (.getfield 10, 3) := by decide +kernel
theorem dX10_who_36 : decode cX10_who 36 = .ok (.iload_n 1, 1) := by decide +kernel
theorem dX10_who_37 : decode cX10_who 37 = .ok (.iload_n 2, 1) := by decide +kernel
theorem dX10_who_38 : decode cX10_who 38 = .ok (.invokevirtual 187, 3) := by decide +kernel
theorem dX10_who_41 : decode cX10_who 41 = .ok (.if_icmp .ge 5, 3) := by decide +kernel
theorem dX10_who_44 : decode cX10_who 44 = .ok (.iload_n 3, 1) := by decide +kernel
theorem dX10_who_45 : decode cX10_who 45 = .ok (.istore_n 2, 1) := by decide +kernel
theorem dX10_who_46 : decode cX10_who 46 = .ok (.iinc 3 1, 3) := by decide +kernel
theorem dX10_who_49 : decode cX10_who 49 = .ok (.goto (-32), 3) := by decide +kernel
theorem dX10_who_52 : decode cX10_who 52 = .ok (.iload_n 2, 1) := by decide +kernel
theorem dX10_who_53 : decode cX10_who 53 = .ok (.ireturn, 1) := by decide +kernel
theorem dX10_doorstep_0 : decode cX10_doorstep 0 = .ok (.iload_n 1, 1) := by decide +kernel
theorem dX10_doorstep_1 : decode cX10_doorstep 1 = .ok (.ifCond .lt 8, 3) := by decide +kernel
theorem dX10_doorstep_4 : decode cX10_doorstep 4 = .ok (.iload_n 1, 1) := by decide +kernel
theorem dX10_doorstep_5 : decode cX10_doorstep 5 = .ok (.iconst 2, 1) := by decide +kernel
theorem dX10_doorstep_6 : decode cX10_doorstep 6 = .ok (.if_icmp .le 7, 3) := by decide +kernel
theorem dX10_doorstep_9 : decode cX10_doorstep 9 = .ok (.ldc2_w 160, 3) := by decide +kernel
theorem dX10_doorstep_12 : decode cX10_doorstep 12 = .ok (.lreturn, 1) := by decide +kernel
theorem dX10_doorstep_13 : decode cX10_doorstep 13 = .ok (.aload_n 0, 1) := by decide +kernel
theorem dX10_doorstep_14 : decode cX10_doorstep 14 = .ok (.getfield 10, 3) := by decide +kernel
theorem dX10_doorstep_17 : decode cX10_doorstep 17 = .ok (.getfield 177, 3) := by decide +kernel
theorem dX10_doorstep_20 : decode cX10_doorstep 20 = .ok (.ifCond .ne 7, 3) := by decide +kernel
theorem dX10_doorstep_23 : decode cX10_doorstep 23 = .ok (.ldc2_w 190, 3) := by decide +kernel
theorem dX10_doorstep_26 : decode cX10_doorstep 26 = .ok (.lreturn, 1) := by decide +kernel
theorem dX10_doorstep_27 : decode cX10_doorstep 27 = .ok (.aload_n 0, 1) := by decide +kernel
theorem dX10_doorstep_28 : decode cX10_doorstep 28 = .ok (.getfield 42, 3) := by decide +kernel
theorem dX10_doorstep_31 : decode cX10_doorstep 31 = .ok (.invokevirtual 162, 3) := by decide +kernel
theorem dX10_doorstep_34 : decode cX10_doorstep 34 = .ok (.aload_n 0, 1) := by decide +kernel
theorem dX10_doorstep_35 : decode cX10_doorstep 35 = .ok (.getfield 42, 3) := by decide +kernel
theorem dX10_doorstep_38 : decode cX10_doorstep 38 = .ok (.invokevirtual 192, 3) := by decide +kernel
theorem dX10_doorstep_41 : decode cX10_doorstep 41 = .ok (.istore_n 2, 1) := by decide +kernel
theorem dX10_doorstep_42 : decode cX10_doorstep 42 = .ok (.iload_n 1, 1) := by decide +kernel
theorem dX10_doorstep_43 : decode cX10_doorstep 43 = .ok (.iconst 2, 1) := by decide +kernel
theorem dX10_doorstep_44 : decode cX10_doorstep 44 = .ok (.if_icmp .ne 6, 3) := by decide +kernel
theorem dX10_doorstep_47 : decode cX10_doorstep 47 = .ok (.iload_n 2, 1) := by decide +kernel
theorem dX10_doorstep_48 : decode cX10_doorstep 48 = .ok (.i2l, 1) := by decide +kernel
theorem dX10_doorstep_49 : decode cX10_doorstep 49 = .ok (.lreturn, 1) := by decide +kernel
theorem dX10_doorstep_50 : decode cX10_doorstep 50 = .ok (.aload_n 0, 1) := by decide +kernel
theorem dX10_doorstep_51 : decode cX10_doorstep 51 = .ok (.getfield 42, 3) := by decide +kernel
theorem dX10_doorstep_54 : decode cX10_doorstep 54 = .ok (.iconst 1, 1) := by decide +kernel
theorem dX10_doorstep_55 : decode cX10_doorstep 55 = .ok (.iload_n 2, 1) := by decide +kernel
theorem dX10_doorstep_56 : decode cX10_doorstep 56 = .ok (.ishl, 1) := by decide +kernel
theorem dX10_doorstep_57 : decode cX10_doorstep 57 = .ok (.iconst 0, 1) := by decide +kernel
theorem dX10_doorstep_58 : decode cX10_doorstep 58 = .ok (.invokevirtual 165, 3) := by decide +kernel
theorem dX10_doorstep_61 : decode cX10_doorstep 61 = .ok (.aload_n 0, 1) := by decide +kernel
theorem dX10_doorstep_62 : decode cX10_doorstep 62 = .ok (.getfield 42, 3) := by decide +kernel
theorem dX10_doorstep_65 : decode cX10_doorstep 65 = .ok (.aload_n 0, 1) := by decide +kernel
theorem dX10_doorstep_66 : decode cX10_doorstep 66 = .ok (.getfield 42, 3) := by decide +kernel
theorem dX10_doorstep_69 : decode cX10_doorstep 69 = .ok (.invokevirtual 169, 3) := by decide +kernel
theorem dX10_doorstep_72 : decode cX10_doorstep 72 = .ok (.iload_n 1, 1) := by decide +kernel
theorem dX10_doorstep_73 : decode cX10_doorstep 73 = .ok (.invokevirtual 173, 3) := by decide +kernel
theorem dX10_doorstep_76 : decode cX10_doorstep 76 = .ok (.lreturn, 1) := by decide +kernel
theorem dX10_list_0 : decode cX10_list 0 = .ok (.iload_n 1, 1) := by decide +kernel
theorem dX10_list_1 : decode cX10_list 1 = .ok (.ifCond .lt 17, 3) := by decide +kernel
theorem dX10_list_4 : decode cX10_list 4 = .ok (.iload_n 1, 1) := by decide +kernel
theorem dX10_list_5 : decode cX10_list 5 = .ok (.iconst 3, 1) := by decide +kernel
theorem dX10_list_6 : decode cX10_list 6 = .ok (.if_icmp .gt 12, 3) := by decide +kernel
theorem dX10_list_9 : decode cX10_list 9 = .ok (.iload_n 2, 1) := by decide +kernel
theorem dX10_list_10 : decode cX10_list 10 = .ok (.ifCond .lt 8, 3) := by decide +kernel
theorem dX10_list_13 : decode cX10_list 13 = .ok (.iload_n 2, 1) := by decide +kernel
theorem dX10_list_14 : decode cX10_list 14 = .ok (.iconst 2, 1) := by decide +kernel
theorem dX10_list_15 : decode cX10_list 15 = .ok (.if_icmp .le 7, 3) := by decide +kernel
theorem dX10_list_18 : decode cX10_list 18 = .ok (.ldc2_w 160, 3) := by decide +kernel
theorem dX10_list_21 : decode cX10_list 21 = .ok (.lreturn, 1) := by decide +kernel
theorem dX10_list_22 : decode cX10_list 22 = .ok (.aload_n 0, 1) := by decide +kernel
theorem dX10_list_23 : decode cX10_list 23 = .ok (.getfield 42, 3) := by decide +kernel
theorem dX10_list_26 : decode cX10_list 26 = .ok (.invokevirtual 162, 3) := by decide +kernel
theorem dX10_list_29 : decode cX10_list 29 = .ok (.aload_n 0, 1) := by decide +kernel
theorem dX10_list_30 : decode cX10_list 30 = .ok (.getfield 42, 3) := by decide +kernel
theorem dX10_list_33 : decode cX10_list 33 = .ok (.iload_n 1, 1) := by decide +kernel
theorem dX10_list_34 : decode cX10_list 34 = .ok (.invokevirtual 195, 3) := by decide +kernel
theorem dX10_list_37 : decode cX10_list 37 = .ok (.istore_n 3, 1) := by decide +kernel
theorem dX10_list_38 : decode cX10_list 38 = .ok (.iload_n 2, 1) := by decide +kernel
theorem dX10_list_39 : decode cX10_list 39 = .ok (.iconst 2, 1) := by decide +kernel
theorem dX10_list_40 : decode cX10_list 40 = .ok (.if_icmp .ne 6, 3) := by decide +kernel
theorem dX10_list_43 : decode cX10_list 43 = .ok (.iload_n 3, 1) := by decide +kernel
theorem dX10_list_44 : decode cX10_list 44 = .ok (.i2l, 1) := by decide +kernel
theorem dX10_list_45 : decode cX10_list 45 = .ok (.lreturn, 1) := by decide +kernel
theorem dX10_list_46 : decode cX10_list 46 = .ok (.aload_n 0, 1) := by decide +kernel
theorem dX10_list_47 : decode cX10_list 47 = .ok (.getfield 42, 3) := by decide +kernel
theorem dX10_list_50 : decode cX10_list 50 = .ok (.iconst 0, 1) := by decide +kernel
theorem dX10_list_51 : decode cX10_list 51 = .ok (.iload_n 3, 1) := by decide +kernel
theorem dX10_list_52 : decode cX10_list 52 = .ok (.invokevirtual 165, 3) := by decide +kernel
theorem dX10_list_55 : decode cX10_list 55 = .ok (.aload_n 0, 1) := by decide +kernel
theorem dX10_list_56 : decode cX10_list 56 = .ok (.getfield 42, 3) := by decide +kernel
theorem dX10_list_59 : decode cX10_list 59 = .ok (.aload_n 0, 1) := by decide +kernel
theorem dX10_list_60 : decode cX10_list 60 = .ok (.getfield 42, 3) := by decide +kernel
theorem dX10_list_63 : decode cX10_list 63 = .ok (.invokevirtual 169, 3) := by decide +kernel
theorem dX10_list_66 : decode cX10_list 66 = .ok (.iload_n 2, 1) := by decide +kernel
theorem dX10_list_67 : decode cX10_list 67 = .ok (.invokevirtual 173, 3) := by decide +kernel
theorem dX10_list_70 : decode cX10_list 70 = .ok (.lreturn, 1) := by decide +kernel
theorem dX10_onWith_0 : decode cX10_onWith 0 = .ok (.aload_n 0, 1) := by decide +kernel
theorem dX10_onWith_1 : decode cX10_onWith 1 = .ok (.getfield 10, 3) := by decide +kernel
theorem dX10_onWith_4 : decode cX10_onWith 4 = .ok (.iload_n 1, 1) := by decide +kernel
theorem dX10_onWith_5 : decode cX10_onWith 5 = .ok (.invokevirtual 125, 3) := by decide +kernel
theorem dX10_onWith_8 : decode cX10_onWith 8 = .ok (.ifCond .ne 5, 3) := by decide +kernel
theorem dX10_onWith_11 : decode cX10_onWith 11 = .ok (.iconst (-1), 1) := by decide +kernel
theorem dX10_onWith_12 : decode cX10_onWith 12 = .ok (.ireturn, 1) := by decide +kernel
theorem dX10_onWith_13 : decode cX10_onWith 13 = .ok (.aload_n 0, 1) := by decide +kernel
theorem dX10_onWith_14 : decode cX10_onWith 14 = .ok (.getfield 35, 3) := by decide +kernel
theorem dX10_onWith_17 : decode cX10_onWith 17 = .ok (.iload_n 1, 1) := by decide +kernel
theorem dX10_onWith_18 : decode cX10_onWith 18 = .ok (.invokevirtual 129, 3) := by decide +kernel
theorem dX10_onWith_21 : decode cX10_onWith 21 = .ok (.aload_n 0, 1) := by decide +kernel
theorem dX10_onWith_22 : decode cX10_onWith 22 = .ok (.getfield 35, 3) := by decide +kernel
theorem dX10_onWith_25 : decode cX10_onWith 25 = .ok (.getfield 198, 3) := by decide +kernel
theorem dX10_onWith_28 : decode cX10_onWith 28 = .ok (.ireturn, 1) := by decide +kernel
theorem dX10_judge_0 : decode cX10_judge 0 = .ok (.aload_n 0, 1) := by decide +kernel
theorem dX10_judge_1 : decode cX10_judge 1 = .ok (.iload_n 1, 1) := by decide +kernel
theorem dX10_judge_2 : decode cX10_judge 2 = .ok (.invokevirtual 82, 3) := by decide +kernel
theorem dX10_judge_5 : decode cX10_judge 5 = .ok (.astore_n 3, 1) := by decide +kernel
theorem dX10_judge_6 : decode cX10_judge 6 = .ok (.aload_n 3, 1) := by decide +kernel
theorem dX10_judge_7 : decode cX10_judge 7 = .ok (.ifnull 14, 3) := by decide +kernel
theorem dX10_judge_10 : decode cX10_judge 10 = .ok (.aload_n 0, 1) := by decide +kernel
theorem dX10_judge_11 : decode cX10_judge 11 = .ok (.getfield 10, 3) := by decide +kernel
theorem dX10_judge_14 : decode cX10_judge 14 = .ok (.iload_n 2, 1) := by decide +kernel
theorem dX10_judge_15 : decode cX10_judge 15 = .ok (.invokevirtual 125, 3) := by decide +kernel
theorem dX10_judge_18 : decode cX10_judge 18 = .ok (.ifCond .ne 5, 3) := by decide +kernel
theorem dX10_judge_21 : decode cX10_judge 21 = .ok (.iconst (-1), 1) := by decide +kernel
theorem dX10_judge_22 : decode cX10_judge 22 = .ok (.ireturn, 1) := by decide +kernel
theorem dX10_judge_23 : decode cX10_judge 23 = .ok (.aload_n 3, 1) := by decide +kernel
theorem dX10_judge_24 : decode cX10_judge 24 = .ok (.invokevirtual 201, 3) := by decide +kernel
theorem dX10_judge_27 : decode cX10_judge 27 = .ok (.istore 4, 2) := by decide +kernel
theorem dX10_judge_29 : decode cX10_judge 29 = .ok (.iload 4, 2) := by decide +kernel
theorem dX10_judge_31 : decode cX10_judge 31 = .ok (.ifCond .eq 6, 3) := by decide +kernel
theorem dX10_judge_34 : decode cX10_judge 34 = .ok (.iload 4, 2) := by decide +kernel
theorem dX10_judge_36 : decode cX10_judge 36 = .ok (.ireturn, 1) := by decide +kernel
theorem dX10_judge_37 : decode cX10_judge 37 = .ok (.aload_n 0, 1) := by decide +kernel
theorem dX10_judge_38 : decode cX10_judge 38 = .ok (.getfield 35, 3) := by decide +kernel
theorem dX10_judge_41 : decode cX10_judge 41 = .ok (.iload_n 2, 1) := by decide +kernel
theorem dX10_judge_42 : decode cX10_judge 42 = .ok (.invokevirtual 129, 3) := by decide +kernel
theorem dX10_judge_45 : decode cX10_judge 45 = .ok (.aload_n 3, 1) := by decide +kernel
theorem dX10_judge_46 : decode cX10_judge 46 = .ok (.aload_n 0, 1) := by decide +kernel
theorem dX10_judge_47 : decode cX10_judge 47 = .ok (.getfield 35, 3) := by decide +kernel
theorem dX10_judge_50 : decode cX10_judge 50 = .ok (.invokestatic 204, 3) := by decide +kernel
theorem dX10_judge_53 : decode cX10_judge 53 = .ok (.ireturn, 1) := by decide +kernel
theorem dX10_which_0 : decode cX10_which 0 = .ok (.aload_n 0, 1) := by decide +kernel
theorem dX10_which_1 : decode cX10_which 1 = .ok (.iload_n 1, 1) := by decide +kernel
theorem dX10_which_2 : decode cX10_which 2 = .ok (.invokevirtual 82, 3) := by decide +kernel
theorem dX10_which_5 : decode cX10_which 5 = .ok (.astore_n 3, 1) := by decide +kernel
theorem dX10_which_6 : decode cX10_which 6 = .ok (.aload_n 3, 1) := by decide +kernel
theorem dX10_which_7 : decode cX10_which 7 = .ok (.ifnull 12, 3) := by decide +kernel
theorem dX10_which_10 : decode cX10_which 10 = .ok (.iload_n 2, 1) := by decide +kernel
theorem dX10_which_11 : decode cX10_which 11 = .ok (.ifCond .lt 8, 3) := by decide +kernel
theorem dX10_which_14 : decode cX10_which 14 = .ok (.iload_n 2, 1) := by decide +kernel
theorem dX10_which_15 : decode cX10_which 15 = .ok (.iconst 2, 1) := by decide +kernel
theorem dX10_which_16 : decode cX10_which 16 = .ok (.if_icmp .le 5, 3) := by decide +kernel
theorem dX10_which_19 : decode cX10_which 19 = .ok (.iconst (-1), 1) := by decide +kernel
theorem dX10_which_20 : decode cX10_which 20 = .ok (.ireturn, 1) := by decide +kernel
theorem dX10_which_21 : decode cX10_which 21 = .ok (.aload_n 3, 1) := by decide +kernel
theorem dX10_which_22 : decode cX10_which 22 = .ok (.invokevirtual 201, 3) := by decide +kernel
theorem dX10_which_25 : decode cX10_which 25 = .ok (.istore 4, 2) := by decide +kernel
theorem dX10_which_27 : decode cX10_which 27 = .ok (.iload 4, 2) := by decide +kernel
theorem dX10_which_29 : decode cX10_which 29 = .ok (.ifCond .eq 6, 3) := by decide +kernel
theorem dX10_which_32 : decode cX10_which 32 = .ok (.iload 4, 2) := by decide +kernel
theorem dX10_which_34 : decode cX10_which 34 = .ok (.ireturn, 1) := by decide +kernel
theorem dX10_which_35 : decode cX10_which 35 = .ok (.iconst 0, 1) := by decide +kernel
theorem dX10_which_36 : decode cX10_which 36 = .ok (.istore 5, 2) := by decide +kernel
theorem dX10_which_38 : decode cX10_which 38 = .ok (.bipush (-2), 2) := by decide +kernel
theorem dX10_which_40 : decode cX10_which 40 = .ok (.istore 6, 2) := by decide +kernel
theorem dX10_which_42 : decode cX10_which 42 = .ok (.iconst 0, 1) := by decide +kernel
theorem dX10_which_43 : decode cX10_which 43 = .ok (.istore 7, 2) := by decide +kernel
theorem dX10_which_45 : decode cX10_which 45 = .ok (.iconst 0, 1) := by decide +kernel
theorem dX10_which_46 : decode cX10_which 46 = .ok (.istore 8, 2) := by decide +kernel
theorem dX10_which_48 : decode cX10_which 48 = .ok (.iload 8, 2) := by decide +kernel
theorem dX10_which_50 : decode cX10_which 50 = .ok (.aload_n 0, 1) := by decide +kernel
theorem dX10_which_51 : decode cX10_which 51 = .ok (.getfield 10, 3) := by decide +kernel
theorem dX10_which_54 : decode cX10_which 54 = .ok (.invokevirtual 208, 3) := by decide +kernel
theorem dX10_which_57 : decode cX10_which 57 = .ok (.if_icmp .ge 65, 3) := by decide +kernel
theorem dX10_which_60 : decode cX10_which 60 = .ok (.aload_n 0, 1) := by decide +kernel
theorem dX10_which_61 : decode cX10_which 61 = .ok (.getfield 35, 3) := by decide +kernel
theorem dX10_which_64 : decode cX10_which 64 = .ok (.iload 8, 2) := by decide +kernel
theorem dX10_which_66 : decode cX10_which 66 = .ok (.invokevirtual 129, 3) := by decide +kernel
theorem dX10_which_69 : decode cX10_which 69 = .ok (.aload_n 3, 1) := by decide +kernel
theorem dX10_which_70 : decode cX10_which 70 = .ok (.aload_n 0, 1) := by decide +kernel
theorem dX10_which_71 : decode cX10_which 71 = .ok (.getfield 35, 3) := by decide +kernel
theorem dX10_which_74 : decode cX10_which 74 = .ok (.invokestatic 204, 3) := by decide +kernel
theorem dX10_which_77 : decode cX10_which 77 = .ok (.bipush (-2), 2) := by decide +kernel
theorem dX10_which_79 : decode cX10_which 79 = .ok (.if_icmp .ne 37, 3) := by decide +kernel
theorem dX10_which_82 : decode cX10_which 82 = .ok (.iload 5, 2) := by decide +kernel
theorem dX10_which_84 : decode cX10_which 84 = .ok (.ifCond .ne 8, 3) := by decide +kernel
theorem dX10_which_87 : decode cX10_which 87 = .ok (.iload 8, 2) := by decide +kernel
theorem dX10_which_89 : decode cX10_which 89 = .ok (.goto 5, 3) := by decide +kernel
theorem dX10_which_92 : decode cX10_which 92 = .ok (.iload 6, 2) := by decide +kernel
theorem dX10_which_94 : decode cX10_which 94 = .ok (.istore 6, 2) := by decide +kernel
theorem dX10_which_96 : decode cX10_which 96 = .ok (.iload 5, 2) := by decide +kernel
theorem dX10_which_98 : decode cX10_which 98 = .ok (.ifCond .ne 8, 3) := by decide +kernel
theorem dX10_which_101 : decode cX10_which 101 = .ok (.iload 8, 2) := by decide +kernel
theorem dX10_which_103 : decode cX10_which 103 = .ok (.goto 8, 3) := by decide +kernel
theorem dX10_which_106 : decode cX10_which 106 = .ok (.iload 7, 2) := by decide +kernel
theorem dX10_which_108 : decode cX10_which 108 = .ok (.iload 8, 2) := by decide +kernel
theorem dX10_which_110 : decode cX10_which 110 = .ok (.iand, 1) := by decide +kernel
theorem dX10_which_111 : decode cX10_which 111 = .ok (.istore 7, 2) := by decide +kernel
theorem dX10_which_113 : decode cX10_which 113 = .ok (.iinc 5 1, 3) := by decide +kernel
theorem dX10_which_116 : decode cX10_which 116 = .ok (.iinc 8 1, 3) := by decide +kernel
theorem dX10_which_119 : decode cX10_which 119 = .ok (.goto (-71), 3) := by decide +kernel
theorem dX10_which_122 : decode cX10_which 122 = .ok (.iload_n 2, 1) := by decide +kernel
theorem dX10_which_123 : decode cX10_which 123 = .ok (.lookupswitch 31 #[(0, 25), (1, 28)], 25) := by decide +kernel
theorem dX10_which_148 : decode cX10_which 148 = .ok (.iload 5, 2) := by decide +kernel
theorem dX10_which_150 : decode cX10_which 150 = .ok (.ireturn, 1) := by decide +kernel
theorem dX10_which_151 : decode cX10_which 151 = .ok (.iload 6, 2) := by decide +kernel
theorem dX10_which_153 : decode cX10_which 153 = .ok (.ireturn, 1) := by decide +kernel
theorem dX10_which_154 : decode cX10_which 154 = .ok (.iload 7, 2) := by decide +kernel
theorem dX10_which_156 : decode cX10_which 156 = .ok (.ireturn, 1) := by decide +kernel
theorem dX10_first_0 : decode cX10_first 0 = .ok (.iload_n 1, 1) := by decide +kernel
theorem dX10_first_1 : decode cX10_first 1 = .ok (.ifCond .lt 8, 3) := by decide +kernel
theorem dX10_first_4 : decode cX10_first 4 = .ok (.iload_n 1, 1) := by decide +kernel
theorem dX10_first_5 : decode cX10_first 5 = .ok (.iconst 1, 1) := by decide +kernel
theorem dX10_first_6 : decode cX10_first 6 = .ok (.if_icmp .le 5, 3) := by decide +kernel
theorem dX10_first_9 : decode cX10_first 9 = .ok (.iconst (-1), 1) := by decide +kernel
theorem dX10_first_10 : decode cX10_first 10 = .ok (.ireturn, 1) := by decide +kernel
theorem dX10_first_11 : decode cX10_first 11 = .ok (.aload_n 0, 1) := by decide +kernel
theorem dX10_first_12 : decode cX10_first 12 = .ok (.getfield 10, 3) := by decide +kernel
theorem dX10_first_15 : decode cX10_first 15 = .ok (.getfield 177, 3) := by decide +kernel
theorem dX10_first_18 : decode cX10_first 18 = .ok (.ifCond .ne 6, 3) := by decide +kernel
theorem dX10_first_21 : decode cX10_first 21 = .ok (.bipush (-2), 2) := by decide +kernel
theorem dX10_first_23 : decode cX10_first 23 = .ok (.ireturn, 1) := by decide +kernel
theorem dX10_first_24 : decode cX10_first 24 = .ok (.aload_n 0, 1) := by decide +kernel
theorem dX10_first_25 : decode cX10_first 25 = .ok (.getfield 42, 3) := by decide +kernel
theorem dX10_first_28 : decode cX10_first 28 = .ok (.invokevirtual 162, 3) := by decide +kernel
theorem dX10_first_31 : decode cX10_first 31 = .ok (.aload_n 0, 1) := by decide +kernel
theorem dX10_first_32 : decode cX10_first 32 = .ok (.getfield 42, 3) := by decide +kernel
theorem dX10_first_35 : decode cX10_first 35 = .ok (.invokevirtual 211, 3) := by decide +kernel
theorem dX10_first_38 : decode cX10_first 38 = .ok (.istore_n 2, 1) := by decide +kernel
theorem dX10_first_39 : decode cX10_first 39 = .ok (.iload_n 1, 1) := by decide +kernel
theorem dX10_first_40 : decode cX10_first 40 = .ok (.ifCond .ne 7, 3) := by decide +kernel
theorem dX10_first_43 : decode cX10_first 43 = .ok (.iload_n 2, 1) := by decide +kernel
theorem dX10_first_44 : decode cX10_first 44 = .ok (.goto 11, 3) := by decide +kernel
theorem dX10_first_47 : decode cX10_first 47 = .ok (.aload_n 0, 1) := by decide +kernel
theorem dX10_first_48 : decode cX10_first 48 = .ok (.getfield 42, 3) := by decide +kernel
theorem dX10_first_51 : decode cX10_first 51 = .ok (.iload_n 2, 1) := by decide +kernel
theorem dX10_first_52 : decode cX10_first 52 = .ok (.invokevirtual 214, 3) := by decide +kernel
theorem dX10_first_55 : decode cX10_first 55 = .ok (.ireturn, 1) := by decide +kernel
theorem dX10_chain_0 : decode cX10_chain 0 = .ok (.aload_n 0, 1) := by decide +kernel
theorem dX10_chain_1 : decode cX10_chain 1 = .ok (.getfield 10, 3) := by decide +kernel
theorem dX10_chain_4 : decode cX10_chain 4 = .ok (.iconst 4, 1) := by decide +kernel
theorem dX10_chain_5 : decode cX10_chain 5 = .ok (.iload_n 1, 1) := by decide +kernel
theorem dX10_chain_6 : decode cX10_chain 6 = .ok (.invokevirtual 98, 3) := by decide +kernel
theorem dX10_chain_9 : decode cX10_chain 9 = .ok (.ifCond .eq 17, 3) := by decide +kernel
theorem dX10_chain_12 : decode cX10_chain 12 = .ok (.aload_n 0, 1) := by decide +kernel
theorem dX10_chain_13 : decode cX10_chain 13 = .ok (.getfield 10, 3) := by decide +kernel
theorem dX10_chain_16 : decode cX10_chain 16 = .ok (.iload_n 1, 1) := by decide +kernel
theorem dX10_chain_17 : decode cX10_chain 17 = .ok (.invokevirtual 217, 3) := by decide +kernel
theorem dX10_chain_20 : decode cX10_chain 20 = .ok (.invokestatic 220, 3) := by decide +kernel
theorem dX10_chain_23 : decode cX10_chain 23 = .ok (.goto 4, 3) := by decide +kernel
theorem dX10_chain_26 : decode cX10_chain 26 = .ok (.iconst (-1), 1) := by decide +kernel
theorem dX10_chain_27 : decode cX10_chain 27 = .ok (.ireturn, 1) := by decide +kernel
theorem dX10_drawn_0 : decode cX10_drawn 0 = .ok (.iload_n 2, 1) := by decide +kernel
theorem dX10_drawn_1 : decode cX10_drawn 1 = .ok (.iconst 1, 1) := by decide +kernel
theorem dX10_drawn_2 : decode cX10_drawn 2 = .ok (.if_icmp .lt 18, 3) := by decide +kernel
theorem dX10_drawn_5 : decode cX10_drawn 5 = .ok (.iload_n 2, 1) := by decide +kernel
theorem dX10_drawn_6 : decode cX10_drawn 6 = .ok (.bipush 30, 2) := by decide +kernel
theorem dX10_drawn_8 : decode cX10_drawn 8 = .ok (.if_icmp .gt 12, 3) := by decide +kernel
theorem dX10_drawn_11 : decode cX10_drawn 11 = .ok (.iload_n 3, 1) := by decide +kernel
theorem dX10_drawn_12 : decode cX10_drawn 12 = .ok (.ifCond .lt 8, 3) := by decide +kernel
theorem dX10_drawn_15 : decode cX10_drawn 15 = .ok (.iload_n 3, 1) := by decide +kernel
theorem dX10_drawn_16 : decode cX10_drawn 16 = .ok (.iconst 1, 1) := by decide +kernel
theorem dX10_drawn_17 : decode cX10_drawn 17 = .ok (.if_icmp .le 5, 3) := by decide +kernel
theorem dX10_drawn_20 : decode cX10_drawn 20 = .ok (.iconst (-1), 1) := by decide +kernel
theorem dX10_drawn_21 : decode cX10_drawn 21 = .ok (.ireturn, 1) := by decide +kernel
theorem dX10_drawn_22 : decode cX10_drawn 22 = .ok (.aload_n 0, 1) := by decide +kernel
theorem dX10_drawn_23 : decode cX10_drawn 23 = .ok (.getfield 49, 3) := by decide +kernel
theorem dX10_drawn_26 : decode cX10_drawn 26 = .ok (.iload_n 1, 1) := by decide +kernel
theorem dX10_drawn_27 : decode cX10_drawn 27 = .ok (.putfield 225, 3) := by decide +kernel
theorem dX10_drawn_30 : decode cX10_drawn 30 = .ok (.iconst 0, 1) := by decide +kernel
theorem dX10_drawn_31 : decode cX10_drawn 31 = .ok (.istore 4, 2) := by decide +kernel
theorem dX10_drawn_33 : decode cX10_drawn 33 = .ok (.iconst 0, 1) := by decide +kernel
theorem dX10_drawn_34 : decode cX10_drawn 34 = .ok (.istore 5, 2) := by decide +kernel
theorem dX10_drawn_36 : decode cX10_drawn 36 = .ok (.iconst 0, 1) := by decide +kernel
theorem dX10_drawn_37 : decode cX10_drawn 37 = .ok (.istore 6, 2) := by decide +kernel
theorem dX10_drawn_39 : decode cX10_drawn 39 = .ok (.iload 6, 2) := by decide +kernel
theorem dX10_drawn_41 : decode cX10_drawn 41 = .ok (.iload_n 2, 1) := by decide +kernel
theorem dX10_drawn_42 : decode cX10_drawn 42 = .ok (.if_icmp .ge 59, 3) := by decide +kernel
theorem dX10_drawn_45 : decode cX10_drawn 45 = .ok (.aload_n 0, 1) := by decide +kernel
theorem dX10_drawn_46 : decode cX10_drawn 46 = .ok (.getfield 35, 3) := by decide +kernel
theorem dX10_drawn_49 : decode cX10_drawn 49 = .ok (.aload_n 0, 1) := by decide +kernel
theorem dX10_drawn_50 : decode cX10_drawn 50 = .ok (.getfield 49, 3) := by decide +kernel
theorem dX10_drawn_53 : decode cX10_drawn 53 = .ok (.aload_n 0, 1) := by decide +kernel
theorem dX10_drawn_54 : decode cX10_drawn 54 = .ok (.getfield 10, 3) := by decide +kernel
theorem dX10_drawn_57 : decode cX10_drawn 57 = .ok (.invokevirtual 228, 3) := by decide +kernel
theorem dX10_drawn_60 : decode cX10_drawn 60 = .ok (.invokevirtual 129, 3) := by decide +kernel
theorem dX10_drawn_63 : decode cX10_drawn 63 = .ok (.iload 4, 2) := by decide +kernel
theorem dX10_drawn_65 : decode cX10_drawn 65 = .ok (.aload_n 0, 1) := by decide +kernel
theorem dX10_drawn_66 : decode cX10_drawn 66 = .ok (.getfield 35, 3) := by decide +kernel
theorem dX10_drawn_69 : decode cX10_drawn 69 = .ok (.invokevirtual 145, 3) := by decide +kernel
theorem dX10_drawn_72 : decode cX10_drawn 72 = .ok (.iadd, 1) := by decide +kernel
theorem dX10_drawn_73 : decode cX10_drawn 73 = .ok (.istore 4, 2) := by decide +kernel
theorem dX10_drawn_75 : decode cX10_drawn 75 = .ok (.iload 5, 2) := by decide +kernel
theorem dX10_drawn_77 : decode cX10_drawn 77 = .ok (.aload_n 0, 1) := by decide +kernel
theorem dX10_drawn_78 : decode cX10_drawn 78 = .ok (.getfield 35, 3) := by decide +kernel
theorem dX10_drawn_81 : decode cX10_drawn 81 = .ok (.getfield 136, 3) := by decide +kernel
theorem dX10_drawn_84 : decode cX10_drawn 84 = .ok (.ifCond .ne 7, 3) := by decide +kernel
theorem dX10_drawn_87 : decode cX10_drawn 87 = .ok (.iconst 1, 1) := by decide +kernel
theorem dX10_drawn_88 : decode cX10_drawn 88 = .ok (.goto 4, 3) := by decide +kernel
theorem dX10_drawn_91 : decode cX10_drawn 91 = .ok (.iconst 0, 1) := by decide +kernel
theorem dX10_drawn_92 : decode cX10_drawn 92 = .ok (.iadd, 1) := by decide +kernel
theorem dX10_drawn_93 : decode cX10_drawn 93 = .ok (.istore 5, 2) := by decide +kernel
theorem dX10_drawn_95 : decode cX10_drawn 95 = .ok (.iinc 6 1, 3) := by decide +kernel
theorem dX10_drawn_98 : decode cX10_drawn 98 = .ok (.goto (-59), 3) := by decide +kernel
theorem dX10_drawn_101 : decode cX10_drawn 101 = .ok (.iload_n 3, 1) := by decide +kernel
theorem dX10_drawn_102 : decode cX10_drawn 102 = .ok (.ifCond .ne 8, 3) := by decide +kernel
theorem dX10_drawn_105 : decode cX10_drawn 105 = .ok (.iload 4, 2) := by decide +kernel
theorem dX10_drawn_107 : decode cX10_drawn 107 = .ok (.goto 5, 3) := by decide +kernel
theorem dX10_drawn_110 : decode cX10_drawn 110 = .ok (.iload 5, 2) := by decide +kernel
theorem dX10_drawn_112 : decode cX10_drawn 112 = .ok (.ireturn, 1) := by decide +kernel
theorem dX10_lock_0 : decode cX10_lock 0 = .ok (.aload_n 0, 1) := by decide +kernel
theorem dX10_lock_1 : decode cX10_lock 1 = .ok (.getfield 56, 3) := by decide +kernel
theorem dX10_lock_4 : decode cX10_lock 4 = .ok (.getfield 232, 3) := by decide +kernel
theorem dX10_lock_7 : decode cX10_lock 7 = .ok (.getfield 235, 3) := by decide +kernel
theorem dX10_lock_10 : decode cX10_lock 10 = .ok (.ifCond .eq 6, 3) := by decide +kernel
theorem dX10_lock_13 : decode cX10_lock 13 = .ok (.bipush (-5), 2) := by decide +kernel
theorem dX10_lock_15 : decode cX10_lock 15 = .ok (.ireturn, 1) := by decide +kernel
theorem dX10_lock_16 : decode cX10_lock 16 = .ok (.aload_n 0, 1) := by decide +kernel
theorem dX10_lock_17 : decode cX10_lock 17 = .ok (.getfield 49, 3) := by decide +kernel
theorem dX10_lock_20 : decode cX10_lock 20 = .ok (.iload_n 1, 1) := by decide +kernel
theorem dX10_lock_21 : decode cX10_lock 21 = .ok (.putfield 225, 3) := by decide +kernel
theorem dX10_lock_24 : decode cX10_lock 24 = .ok (.aload_n 0, 1) := by decide +kernel
theorem dX10_lock_25 : decode cX10_lock 25 = .ok (.getfield 49, 3) := by decide +kernel
theorem dX10_lock_28 : decode cX10_lock 28 = .ok (.aload_n 0, 1) := by decide +kernel
theorem dX10_lock_29 : decode cX10_lock 29 = .ok (.getfield 10, 3) := by decide +kernel
theorem dX10_lock_32 : decode cX10_lock 32 = .ok (.invokevirtual 228, 3) := by decide +kernel
theorem dX10_lock_35 : decode cX10_lock 35 = .ok (.istore_n 2, 1) := by decide +kernel
theorem dX10_lock_36 : decode cX10_lock 36 = .ok (.aload_n 0, 1) := by decide +kernel
theorem dX10_lock_37 : decode cX10_lock 37 = .ok (.getfield 56, 3) := by decide +kernel
theorem dX10_lock_40 : decode cX10_lock 40 = .ok (.getfield 232, 3) := by decide +kernel
theorem dX10_lock_43 : decode cX10_lock 43 = .ok (.iload_n 2, 1) := by decide +kernel
theorem dX10_lock_44 : decode cX10_lock 44 = .ok (.invokevirtual 239, 3) := by decide +kernel
theorem dX10_lock_47 : decode cX10_lock 47 = .ok (.iload_n 2, 1) := by decide +kernel
theorem dX10_lock_48 : decode cX10_lock 48 = .ok (.invokestatic 220, 3) := by decide +kernel
theorem dX10_lock_51 : decode cX10_lock 51 = .ok (.ireturn, 1) := by decide +kernel
theorem dX10_on_0 : decode cX10_on 0 = .ok (.aload_n 0, 1) := by decide +kernel
theorem dX10_on_1 : decode cX10_on 1 = .ok (.getfield 56, 3) := by decide +kernel
theorem dX10_on_4 : decode cX10_on 4 = .ok (.getfield 232, 3) := by decide +kernel
theorem dX10_on_7 : decode cX10_on 7 = .ok (.getfield 235, 3) := by decide +kernel
theorem dX10_on_10 : decode cX10_on 10 = .ok (.ifCond .ne 6, 3) := by decide +kernel
theorem dX10_on_13 : decode cX10_on 13 = .ok (.bipush (-5), 2) := by decide +kernel
theorem dX10_on_15 : decode cX10_on 15 = .ok (.ireturn, 1) := by decide +kernel
theorem dX10_on_16 : decode cX10_on 16 = .ok (.aload_n 0, 1) := by decide +kernel
theorem dX10_on_17 : decode cX10_on 17 = .ok (.getfield 56, 3) := by decide +kernel
theorem dX10_on_20 : decode cX10_on 20 = .ok (.getfield 232, 3) := by decide +kernel
theorem dX10_on_23 : decode cX10_on 23 = .ok (.invokevirtual 242, 3) := by decide +kernel
theorem dX10_on_26 : decode cX10_on 26 = .ok (.aload_n 0, 1) := by decide +kernel
theorem dX10_on_27 : decode cX10_on 27 = .ok (.getfield 56, 3) := by decide +kernel
theorem dX10_on_30 : decode cX10_on 30 = .ok (.getfield 232, 3) := by decide +kernel
theorem dX10_on_33 : decode cX10_on 33 = .ok (.getfield 235, 3) := by decide +kernel
theorem dX10_on_36 : decode cX10_on 36 = .ok (.ifCond .eq 14, 3) := by decide +kernel
theorem dX10_on_39 : decode cX10_on 39 = .ok (.aload_n 0, 1) := by decide +kernel
theorem dX10_on_40 : decode cX10_on 40 = .ok (.getfield 56, 3) := by decide +kernel
theorem dX10_on_43 : decode cX10_on 43 = .ok (.getfield 232, 3) := by decide +kernel
theorem dX10_on_46 : decode cX10_on 46 = .ok (.getfield 245, 3) := by decide +kernel
theorem dX10_on_49 : decode cX10_on 49 = .ok (.ireturn, 1) := by decide +kernel
theorem dX10_on_50 : decode cX10_on 50 = .ok (.aload_n 0, 1) := by decide +kernel
theorem dX10_on_51 : decode cX10_on 51 = .ok (.getfield 56, 3) := by decide +kernel
theorem dX10_on_54 : decode cX10_on 54 = .ok (.dup, 1) := by decide +kernel
theorem dX10_on_55 : decode cX10_on 55 = .ok (.getfield 248, 3) := by decide +kernel
theorem dX10_on_58 : decode cX10_on 58 = .ok (.iconst 1, 1) := by decide +kernel
theorem dX10_on_59 : decode cX10_on 59 = .ok (.iadd, 1) := by decide +kernel
theorem dX10_on_60 : decode cX10_on 60 = .ok (.putfield 248, 3) := by decide +kernel
theorem dX10_on_63 : decode cX10_on 63 = .ok (.aload_n 0, 1) := by decide +kernel
theorem dX10_on_64 : decode cX10_on 64 = .ok (.getfield 56, 3) := by decide +kernel
theorem dX10_on_67 : decode cX10_on 67 = .ok (.dup, 1) := by decide +kernel
theorem dX10_on_68 : decode cX10_on 68 = .ok (.getfield 251, 3) := by decide +kernel
theorem dX10_on_71 : decode cX10_on 71 = .ok (.aload_n 0, 1) := by decide +kernel
theorem dX10_on_72 : decode cX10_on 72 = .ok (.getfield 56, 3) := by decide +kernel
theorem dX10_on_75 : decode cX10_on 75 = .ok (.getfield 232, 3) := by decide +kernel
theorem dX10_on_78 : decode cX10_on 78 = .ok (.invokevirtual 145, 3) := by decide +kernel
theorem dX10_on_81 : decode cX10_on 81 = .ok (.iadd, 1) := by decide +kernel
theorem dX10_on_82 : decode cX10_on 82 = .ok (.putfield 251, 3) := by decide +kernel
theorem dX10_on_85 : decode cX10_on 85 = .ok (.bipush (-2), 2) := by decide +kernel
theorem dX10_on_87 : decode cX10_on 87 = .ok (.ireturn, 1) := by decide +kernel
theorem dX10_led_0 : decode cX10_led 0 = .ok (.iload_n 1, 1) := by decide +kernel
theorem dX10_led_1 : decode cX10_led 1 = .ok (.tableswitch 132 0 6 #[43, 54, 65, 76, 87, 95, 103], 43) := by decide +kernel
theorem dX10_led_44 : decode cX10_led 44 = .ok (.aload_n 0, 1) := by decide +kernel
theorem dX10_led_45 : decode cX10_led 45 = .ok (.getfield 56, 3) := by decide +kernel
theorem dX10_led_48 : decode cX10_led 48 = .ok (.getfield 232, 3) := by decide +kernel
theorem dX10_led_51 : decode cX10_led 51 = .ok (.getfield 133, 3) := by decide +kernel
theorem dX10_led_54 : decode cX10_led 54 = .ok (.ireturn, 1) := by decide +kernel
theorem dX10_led_55 : decode cX10_led 55 = .ok (.aload_n 0, 1) := by decide +kernel
theorem dX10_led_56 : decode cX10_led 56 = .ok (.getfield 56, 3) := by decide +kernel
theorem dX10_led_59 : decode cX10_led 59 = .ok (.getfield 232, 3) := by decide +kernel
