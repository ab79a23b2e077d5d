theorem dX6_init_0 : decode cX6_init 0 = .ok (.aload_n 0, 1) := by decide +kernel
theorem dX6_init_1 : decode cX6_init 1 = .ok (.invokespecial 3, 3) := by decide +kernel
theorem dX6_init_4 : decode cX6_init 4 = .ok (.aload_n 0, 1) := by decide +kernel
theorem dX6_init_5 : decode cX6_init 5 = .ok (.bipush 120, 2) := by decide +kernel
theorem dX6_init_7 : decode cX6_init 7 = .ok (.newarray .int, 2) := by decide +kernel
theorem dX6_init_9 : decode cX6_init 9 = .ok (.putfield 11, 3) := by decide +kernel
theorem dX6_init_12 : decode cX6_init 12 = .ok (.aload_n 0, 1) := by decide +kernel
theorem dX6_init_13 : decode cX6_init 13 = .ok (.sipush 128, 3) := by decide +kernel
theorem dX6_init_16 : decode cX6_init 16 = .ok (.newarray .int, 2) := by decide +kernel
theorem dX6_init_18 : decode cX6_init 18 = .ok (.putfield 17, 3) := by decide +kernel
theorem dX6_init_21 : decode cX6_init 21 = .ok (.aload_n 0, 1) := by decide +kernel
theorem dX6_init_22 : decode cX6_init 22 = .ok (.sipush 128, 3) := by decide +kernel
theorem dX6_init_25 : decode cX6_init 25 = .ok (.newarray .int, 2) := by decide +kernel
theorem dX6_init_27 : decode cX6_init 27 = .ok (.putfield 20, 3) := by decide +kernel
theorem dX6_init_30 : decode cX6_init 30 = .ok (.return_, 1) := by decide +kernel
theorem dX6_take_0 : decode cX6_take 0 = .ok (.aload_n 0, 1) := by decide +kernel
theorem dX6_take_1 : decode cX6_take 1 = .ok (.getfield 23, 3) := by decide +kernel
theorem dX6_take_4 : decode cX6_take 4 = .ok (.ifCond .lt 12, 3) := by decide +kernel
theorem dX6_take_7 : decode cX6_take 7 = .ok (.aload_n 0, 1) := by decide +kernel
theorem dX6_take_8 : decode cX6_take 8 = .ok (.getfield 23, 3) := by decide +kernel
theorem dX6_take_11 : decode cX6_take 11 = .ok (.bipush 120, 2) := by decide +kernel
theorem dX6_take_13 : decode cX6_take 13 = .ok (.if_icmp .lt 6, 3) := by decide +kernel
theorem dX6_take_16 : decode cX6_take 16 = .ok (.bipush (-3), 2) := by decide +kernel
theorem dX6_take_18 : decode cX6_take 18 = .ok (.ireturn, 1) := by decide +kernel
theorem dX6_take_19 : decode cX6_take 19 = .ok (.aload_n 0, 1) := by decide +kernel
theorem dX6_take_20 : decode cX6_take 20 = .ok (.getfield 11, 3) := by decide +kernel
theorem dX6_take_23 : decode cX6_take 23 = .ok (.aload_n 0, 1) := by decide +kernel
theorem dX6_take_24 : decode cX6_take 24 = .ok (.getfield 23, 3) := by decide +kernel
theorem dX6_take_27 : decode cX6_take 27 = .ok (.iload_n 1, 1) := by decide +kernel
theorem dX6_take_28 : decode cX6_take 28 = .ok (.iastore, 1) := by decide +kernel
theorem dX6_take_29 : decode cX6_take 29 = .ok (.aload_n 0, 1) := by decide +kernel
theorem dX6_take_30 : decode cX6_take 30 = .ok (.dup, 1) := by decide +kernel
theorem dX6_take_31 : decode cX6_take 31 = .ok (.getfield 23, 3) := by decide +kernel
theorem dX6_take_34 : decode cX6_take 34 = .ok (.iconst 1, 1) := by decide +kernel
theorem dX6_take_35 : decode cX6_take 35 = .ok (.iadd, 1) := by decide +kernel
theorem dX6_take_36 : decode cX6_take 36 = .ok (.putfield 23, 3) := by decide +kernel
theorem dX6_take_39 : decode cX6_take 39 = .ok (.aload_n 0, 1) := by decide +kernel
theorem dX6_take_40 : decode cX6_take 40 = .ok (.getfield 23, 3) := by decide +kernel
theorem dX6_take_43 : decode cX6_take 43 = .ok (.ireturn, 1) := by decide +kernel
theorem dX6_read_0 : decode cX6_read 0 = .ok (.aload_n 0, 1) := by decide +kernel
theorem dX6_read_1 : decode cX6_read 1 = .ok (.iconst 0, 1) := by decide +kernel
theorem dX6_read_2 : decode cX6_read 2 = .ok (.putfield 27, 3) := by decide +kernel
theorem dX6_read_5 : decode cX6_read 5 = .ok (.aload_n 0, 1) := by decide +kernel
theorem dX6_read_6 : decode cX6_read 6 = .ok (.iconst (-1), 1) := by decide +kernel
theorem dX6_read_7 : decode cX6_read 7 = .ok (.putfield 30, 3) := by decide +kernel
theorem dX6_read_10 : decode cX6_read 10 = .ok (.aload_n 0, 1) := by decide +kernel
theorem dX6_read_11 : decode cX6_read 11 = .ok (.iconst 0, 1) := by decide +kernel
theorem dX6_read_12 : decode cX6_read 12 = .ok (.putfield 33, 3) := by decide +kernel
theorem dX6_read_15 : decode cX6_read 15 = .ok (.aload_n 0, 1) := by decide +kernel
theorem dX6_read_16 : decode cX6_read 16 = .ok (.invokevirtual 36, 3) := by decide +kernel
theorem dX6_read_19 : decode cX6_read 19 = .ok (.iconst 0, 1) := by decide +kernel
theorem dX6_read_20 : decode cX6_read 20 = .ok (.istore_n 1, 1) := by decide +kernel
theorem dX6_read_21 : decode cX6_read 21 = .ok (.iload_n 1, 1) := by decide +kernel
theorem dX6_read_22 : decode cX6_read 22 = .ok (.bipush 120, 2) := by decide +kernel
theorem dX6_read_24 : decode cX6_read 24 = .ok (.if_icmp .ge 22, 3) := by decide +kernel
theorem dX6_read_27 : decode cX6_read 27 = .ok (.aload_n 0, 1) := by decide +kernel
theorem dX6_read_28 : decode cX6_read 28 = .ok (.bipush 59, 2) := by decide +kernel
theorem dX6_read_30 : decode cX6_read 30 = .ok (.invokevirtual 39, 3) := by decide +kernel
theorem dX6_read_33 : decode cX6_read 33 = .ok (.ifCond .eq 13, 3) := by decide +kernel
theorem dX6_read_36 : decode cX6_read 36 = .ok (.aload_n 0, 1) := by decide +kernel
theorem dX6_read_37 : decode cX6_read 37 = .ok (.invokevirtual 36, 3) := by decide +kernel
theorem dX6_read_40 : decode cX6_read 40 = .ok (.iinc 1 1, 3) := by decide +kernel
theorem dX6_read_43 : decode cX6_read 43 = .ok (.goto (-22), 3) := by decide +kernel
theorem dX6_read_46 : decode cX6_read 46 = .ok (.aload_n 0, 1) := by decide +kernel
theorem dX6_read_47 : decode cX6_read 47 = .ok (.getfield 27, 3) := by decide +kernel
theorem dX6_read_50 : decode cX6_read 50 = .ok (.aload_n 0, 1) := by decide +kernel
theorem dX6_read_51 : decode cX6_read 51 = .ok (.getfield 23, 3) := by decide +kernel
theorem dX6_read_54 : decode cX6_read 54 = .ok (.if_icmp .ge 7, 3) := by decide +kernel
theorem dX6_read_57 : decode cX6_read 57 = .ok (.aload_n 0, 1) := by decide +kernel
theorem dX6_read_58 : decode cX6_read 58 = .ok (.invokevirtual 43, 3) := by decide +kernel
theorem dX6_read_61 : decode cX6_read 61 = .ok (.aload_n 0, 1) := by decide +kernel
theorem dX6_read_62 : decode cX6_read 62 = .ok (.iconst 0, 1) := by decide +kernel
theorem dX6_read_63 : decode cX6_read 63 = .ok (.putfield 23, 3) := by decide +kernel
theorem dX6_read_66 : decode cX6_read 66 = .ok (.aload_n 0, 1) := by decide +kernel
theorem dX6_read_67 : decode cX6_read 67 = .ok (.getfield 30, 3) := by decide +kernel
theorem dX6_read_70 : decode cX6_read 70 = .ok (.ireturn, 1) := by decide +kernel
theorem dX6_line_0 : decode cX6_line 0 = .ok (.aload_n 0, 1) := by decide +kernel
theorem dX6_line_1 : decode cX6_line 1 = .ok (.iconst 0, 1) := by decide +kernel
theorem dX6_line_2 : decode cX6_line 2 = .ok (.invokevirtual 46, 3) := by decide +kernel
theorem dX6_line_5 : decode cX6_line 5 = .ok (.aload_n 0, 1) := by decide +kernel
theorem dX6_line_6 : decode cX6_line 6 = .ok (.bipush 63, 2) := by decide +kernel
theorem dX6_line_8 : decode cX6_line 8 = .ok (.invokevirtual 39, 3) := by decide +kernel
theorem dX6_line_11 : decode cX6_line 11 = .ok (.ifCond .eq 15, 3) := by decide +kernel
theorem dX6_line_14 : decode cX6_line 14 = .ok (.aload_n 0, 1) := by decide +kernel
theorem dX6_line_15 : decode cX6_line 15 = .ok (.bipush 63, 2) := by decide +kernel
theorem dX6_line_17 : decode cX6_line 17 = .ok (.iconst 0, 1) := by decide +kernel
theorem dX6_line_18 : decode cX6_line 18 = .ok (.invokevirtual 50, 3) := by decide +kernel
theorem dX6_line_21 : decode cX6_line 21 = .ok (.aload_n 0, 1) := by decide +kernel
theorem dX6_line_22 : decode cX6_line 22 = .ok (.iconst 0, 1) := by decide +kernel
theorem dX6_line_23 : decode cX6_line 23 = .ok (.invokevirtual 46, 3) := by decide +kernel
theorem dX6_line_26 : decode cX6_line 26 = .ok (.aload_n 0, 1) := by decide +kernel
theorem dX6_line_27 : decode cX6_line 27 = .ok (.bipush 59, 2) := by decide +kernel
theorem dX6_line_29 : decode cX6_line 29 = .ok (.iconst 0, 1) := by decide +kernel
theorem dX6_line_30 : decode cX6_line 30 = .ok (.invokevirtual 50, 3) := by decide +kernel
theorem dX6_line_33 : decode cX6_line 33 = .ok (.return_, 1) := by decide +kernel
theorem dX6_either_0 : decode cX6_either 0 = .ok (.aload_n 0, 1) := by decide +kernel
theorem dX6_either_1 : decode cX6_either 1 = .ok (.iload_n 1, 1) := by decide +kernel
theorem dX6_either_2 : decode cX6_either 2 = .ok (.invokevirtual 54, 3) := by decide +kernel
theorem dX6_either_5 : decode cX6_either 5 = .ok (.iconst 0, 1) := by decide +kernel
theorem dX6_either_6 : decode cX6_either 6 = .ok (.istore_n 2, 1) := by decide +kernel
theorem dX6_either_7 : decode cX6_either 7 = .ok (.iload_n 2, 1) := by decide +kernel
theorem dX6_either_8 : decode cX6_either 8 = .ok (.bipush 120, 2) := by decide +kernel
theorem dX6_either_10 : decode cX6_either 10 = .ok (.if_icmp .ge 30, 3) := by decide +kernel
theorem dX6_either_13 : decode cX6_either 13 = .ok (.aload_n 0, 1) := by decide +kernel
theorem dX6_either_14 : decode cX6_either 14 = .ok (.bipush 124, 2) := by decide +kernel
theorem dX6_either_16 : decode cX6_either 16 = .ok (.invokevirtual 39, 3) := by decide +kernel
theorem dX6_either_19 : decode cX6_either 19 = .ok (.ifCond .eq 21, 3) := by decide +kernel
theorem dX6_either_22 : decode cX6_either 22 = .ok (.aload_n 0, 1) := by decide +kernel
theorem dX6_either_23 : decode cX6_either 23 = .ok (.iload_n 1, 1) := by decide +kernel
theorem dX6_either_24 : decode cX6_either 24 = .ok (.invokevirtual 54, 3) := by decide +kernel
theorem dX6_either_27 : decode cX6_either 27 = .ok (.aload_n 0, 1) := by decide +kernel
theorem dX6_either_28 : decode cX6_either 28 = .ok (.bipush 124, 2) := by decide +kernel
theorem dX6_either_30 : decode cX6_either 30 = .ok (.iconst 0, 1) := by decide +kernel
theorem dX6_either_31 : decode cX6_either 31 = .ok (.invokevirtual 50, 3) := by decide +kernel
theorem dX6_either_34 : decode cX6_either 34 = .ok (.iinc 2 1, 3) := by decide +kernel
theorem dX6_either_37 : decode cX6_either 37 = .ok (.goto (-30), 3) := by decide +kernel
theorem dX6_either_40 : decode cX6_either 40 = .ok (.return_, 1) := by decide +kernel
theorem dX6_both_0 : decode cX6_both 0 = .ok (.aload_n 0, 1) := by decide +kernel
theorem dX6_both_1 : decode cX6_both 1 = .ok (.iload_n 1, 1) := by decide +kernel
theorem dX6_both_2 : decode cX6_both 2 = .ok (.invokevirtual 57, 3) := by decide +kernel
theorem dX6_both_5 : decode cX6_both 5 = .ok (.iconst 0, 1) := by decide +kernel
theorem dX6_both_6 : decode cX6_both 6 = .ok (.istore_n 2, 1) := by decide +kernel
theorem dX6_both_7 : decode cX6_both 7 = .ok (.iload_n 2, 1) := by decide +kernel
theorem dX6_both_8 : decode cX6_both 8 = .ok (.bipush 120, 2) := by decide +kernel
theorem dX6_both_10 : decode cX6_both 10 = .ok (.if_icmp .ge 30, 3) := by decide +kernel
theorem dX6_both_13 : decode cX6_both 13 = .ok (.aload_n 0, 1) := by decide +kernel
theorem dX6_both_14 : decode cX6_both 14 = .ok (.bipush 38, 2) := by decide +kernel
theorem dX6_both_16 : decode cX6_both 16 = .ok (.invokevirtual 39, 3) := by decide +kernel
theorem dX6_both_19 : decode cX6_both 19 = .ok (.ifCond .eq 21, 3) := by decide +kernel
theorem dX6_both_22 : decode cX6_both 22 = .ok (.aload_n 0, 1) := by decide +kernel
theorem dX6_both_23 : decode cX6_both 23 = .ok (.iload_n 1, 1) := by decide +kernel
theorem dX6_both_24 : decode cX6_both 24 = .ok (.invokevirtual 57, 3) := by decide +kernel
theorem dX6_both_27 : decode cX6_both 27 = .ok (.aload_n 0, 1) := by decide +kernel
theorem dX6_both_28 : decode cX6_both 28 = .ok (.bipush 38, 2) := by decide +kernel
theorem dX6_both_30 : decode cX6_both 30 = .ok (.iconst 0, 1) := by decide +kernel
theorem dX6_both_31 : decode cX6_both 31 = .ok (.invokevirtual 50, 3) := by decide +kernel
theorem dX6_both_34 : decode cX6_both 34 = .ok (.iinc 2 1, 3) := by decide +kernel
theorem dX6_both_37 : decode cX6_both 37 = .ok (.goto (-30), 3) := by decide +kernel
theorem dX6_both_40 : decode cX6_both 40 = .ok (.return_, 1) := by decide +kernel
theorem dX6_compared_0 : decode cX6_compared 0 = .ok (.aload_n 0, 1) := by decide +kernel
theorem dX6_compared_1 : decode cX6_compared 1 = .ok (.iload_n 1, 1) := by decide +kernel
theorem dX6_compared_2 : decode cX6_compared 2 = .ok (.invokevirtual 60, 3) := by decide +kernel
theorem dX6_compared_5 : decode cX6_compared 5 = .ok (.aload_n 0, 1) := by decide +kernel
theorem dX6_compared_6 : decode cX6_compared 6 = .ok (.invokevirtual 63, 3) := by decide +kernel
theorem dX6_compared_9 : decode cX6_compared 9 = .ok (.istore_n 2, 1) := by decide +kernel
theorem dX6_compared_10 : decode cX6_compared 10 = .ok (.iload_n 2, 1) := by decide +kernel
theorem dX6_compared_11 : decode cX6_compared 11 = .ok (.bipush 60, 2) := by decide +kernel
theorem dX6_compared_13 : decode cX6_compared 13 = .ok (.if_icmp .eq 15, 3) := by decide +kernel
theorem dX6_compared_16 : decode cX6_compared 16 = .ok (.iload_n 2, 1) := by decide +kernel
theorem dX6_compared_17 : decode cX6_compared 17 = .ok (.bipush 61, 2) := by decide +kernel
theorem dX6_compared_19 : decode cX6_compared 19 = .ok (.if_icmp .eq 9, 3) := by decide +kernel
theorem dX6_compared_22 : decode cX6_compared 22 = .ok (.iload_n 2, 1) := by decide +kernel
theorem dX6_compared_23 : decode cX6_compared 23 = .ok (.bipush 62, 2) := by decide +kernel
theorem dX6_compared_25 : decode cX6_compared 25 = .ok (.if_icmp .ne 24, 3) := by decide +kernel
theorem dX6_compared_28 : decode cX6_compared 28 = .ok (.aload_n 0, 1) := by decide +kernel
theorem dX6_compared_29 : decode cX6_compared 29 = .ok (.dup, 1) := by decide +kernel
theorem dX6_compared_30 : decode cX6_compared 30 = .ok (.getfield 27, 3) := by decide +kernel
theorem dX6_compared_33 : decode cX6_compared 33 = .ok (.iconst 1, 1) := by decide +kernel
theorem dX6_compared_34 : decode cX6_compared 34 = .ok (.iadd, 1) := by decide +kernel
theorem dX6_compared_35 : decode cX6_compared 35 = .ok (.putfield 27, 3) := by decide +kernel
theorem dX6_compared_38 : decode cX6_compared 38 = .ok (.aload_n 0, 1) := by decide +kernel
theorem dX6_compared_39 : decode cX6_compared 39 = .ok (.iload_n 1, 1) := by decide +kernel
theorem dX6_compared_40 : decode cX6_compared 40 = .ok (.invokevirtual 60, 3) := by decide +kernel
theorem dX6_compared_43 : decode cX6_compared 43 = .ok (.aload_n 0, 1) := by decide +kernel
theorem dX6_compared_44 : decode cX6_compared 44 = .ok (.iload_n 2, 1) := by decide +kernel
theorem dX6_compared_45 : decode cX6_compared 45 = .ok (.iconst 0, 1) := by decide +kernel
theorem dX6_compared_46 : decode cX6_compared 46 = .ok (.invokevirtual 50, 3) := by decide +kernel
theorem dX6_compared_49 : decode cX6_compared 49 = .ok (.return_, 1) := by decide +kernel
theorem dX6_sum_0 : decode cX6_sum 0 = .ok (.aload_n 0, 1) := by decide +kernel
theorem dX6_sum_1 : decode cX6_sum 1 = .ok (.iload_n 1, 1) := by decide +kernel
theorem dX6_sum_2 : decode cX6_sum 2 = .ok (.invokevirtual 67, 3) := by decide +kernel
theorem dX6_sum_5 : decode cX6_sum 5 = .ok (.iconst 0, 1) := by decide +kernel
theorem dX6_sum_6 : decode cX6_sum 6 = .ok (.istore_n 2, 1) := by decide +kernel
theorem dX6_sum_7 : decode cX6_sum 7 = .ok (.iload_n 2, 1) := by decide +kernel
theorem dX6_sum_8 : decode cX6_sum 8 = .ok (.bipush 120, 2) := by decide +kernel
theorem dX6_sum_10 : decode cX6_sum 10 = .ok (.if_icmp .ge 53, 3) := by decide +kernel
theorem dX6_sum_13 : decode cX6_sum 13 = .ok (.aload_n 0, 1) := by decide +kernel
theorem dX6_sum_14 : decode cX6_sum 14 = .ok (.invokevirtual 63, 3) := by decide +kernel
theorem dX6_sum_17 : decode cX6_sum 17 = .ok (.bipush 43, 2) := by decide +kernel
theorem dX6_sum_19 : decode cX6_sum 19 = .ok (.if_icmp .eq 12, 3) := by decide +kernel
theorem dX6_sum_22 : decode cX6_sum 22 = .ok (.aload_n 0, 1) := by decide +kernel
theorem dX6_sum_23 : decode cX6_sum 23 = .ok (.invokevirtual 63, 3) := by decide +kernel
theorem dX6_sum_26 : decode cX6_sum 26 = .ok (.bipush 45, 2) := by decide +kernel
theorem dX6_sum_28 : decode cX6_sum 28 = .ok (.if_icmp .ne 35, 3) := by decide +kernel
theorem dX6_sum_31 : decode cX6_sum 31 = .ok (.aload_n 0, 1) := by decide +kernel
theorem dX6_sum_32 : decode cX6_sum 32 = .ok (.invokevirtual 63, 3) := by decide +kernel
theorem dX6_sum_35 : decode cX6_sum 35 = .ok (.istore_n 3, 1) := by decide +kernel
theorem dX6_sum_36 : decode cX6_sum 36 = .ok (.aload_n 0, 1) := by decide +kernel
theorem dX6_sum_37 : decode cX6_sum 37 = .ok (.dup, 1) := by decide +kernel
theorem dX6_sum_38 : decode cX6_sum 38 = .ok (.getfield 27, 3) := by decide +kernel
theorem dX6_sum_41 : decode cX6_sum 41 = .ok (.iconst 1, 1) := by decide +kernel
theorem dX6_sum_42 : decode cX6_sum 42 = .ok (.iadd, 1) := by decide +kernel
theorem dX6_sum_43 : decode cX6_sum 43 = .ok (.putfield 27, 3) := by decide +kernel
theorem dX6_sum_46 : decode cX6_sum 46 = .ok (.aload_n 0, 1) := by decide +kernel
theorem dX6_sum_47 : decode cX6_sum 47 = .ok (.iload_n 1, 1) := by decide +kernel
theorem dX6_sum_48 : decode cX6_sum 48 = .ok (.invokevirtual 67, 3) := by decide +kernel
theorem dX6_sum_51 : decode cX6_sum 51 = .ok (.aload_n 0, 1) := by decide +kernel
theorem dX6_sum_52 : decode cX6_sum 52 = .ok (.iload_n 3, 1) := by decide +kernel
theorem dX6_sum_53 : decode cX6_sum 53 = .ok (.iconst 0, 1) := by decide +kernel
theorem dX6_sum_54 : decode cX6_sum 54 = .ok (.invokevirtual 50, 3) := by decide +kernel
theorem dX6_sum_57 : decode cX6_sum 57 = .ok (.iinc 2 1, 3) := by decide +kernel
theorem dX6_sum_60 : decode cX6_sum 60 = .ok (.goto (-53), 3) := by decide +kernel
theorem dX6_sum_63 : decode cX6_sum 63 = .ok (.return_, 1) := by decide +kernel
theorem dX6_product_0 : decode cX6_product 0 = .ok (.aload_n 0, 1) := by decide +kernel
theorem dX6_product_1 : decode cX6_product 1 = .ok (.iload_n 1, 1) := by decide +kernel
theorem dX6_product_2 : decode cX6_product 2 = .ok (.invokevirtual 70, 3) := by decide +kernel
theorem dX6_product_5 : decode cX6_product 5 = .ok (.iconst 0, 1) := by decide +kernel
theorem dX6_product_6 : decode cX6_product 6 = .ok (.istore_n 2, 1) := by decide +kernel
theorem dX6_product_7 : decode cX6_product 7 = .ok (.iload_n 2, 1) := by decide +kernel
theorem dX6_product_8 : decode cX6_product 8 = .ok (.bipush 120, 2) := by decide +kernel
theorem dX6_product_10 : decode cX6_product 10 = .ok (.if_icmp .ge 62, 3) := by decide +kernel
theorem dX6_product_13 : decode cX6_product 13 = .ok (.aload_n 0, 1) := by decide +kernel
theorem dX6_product_14 : decode cX6_product 14 = .ok (.invokevirtual 63, 3) := by decide +kernel
theorem dX6_product_17 : decode cX6_product 17 = .ok (.bipush 42, 2) := by decide +kernel
theorem dX6_product_19 : decode cX6_product 19 = .ok (.if_icmp .eq 21, 3) := by decide +kernel
theorem dX6_product_22 : decode cX6_product 22 = .ok (.aload_n 0, 1) := by decide +kernel
theorem dX6_product_23 : decode cX6_product 23 = .ok (.invokevirtual 63, 3) := by decide +kernel
theorem dX6_product_26 : decode cX6_product 26 = .ok (.bipush 47, 2) := by decide +kernel
theorem dX6_product_28 : decode cX6_product 28 = .ok (.if_icmp .eq 12, 3) := by decide +kernel
theorem dX6_product_31 : decode cX6_product 31 = .ok (.aload_n 0, 1) := by decide +kernel
theorem dX6_product_32 : decode cX6_product 32 = .ok (.invokevirtual 63, 3) := by decide +kernel
theorem dX6_product_35 : decode cX6_product 35 = .ok (.bipush 37, 2) := by decide +kernel
theorem dX6_product_37 : decode cX6_product 37 = .ok (.if_icmp .ne 35, 3) := by decide +kernel
theorem dX6_product_40 : decode cX6_product 40 = .ok (.aload_n 0, 1) := by decide +kernel
theorem dX6_product_41 : decode cX6_product 41 = .ok (.invokevirtual 63, 3) := by decide +kernel
theorem dX6_product_44 : decode cX6_product 44 = .ok (.istore_n 3, 1) := by decide +kernel
theorem dX6_product_45 : decode cX6_product 45 = .ok (.aload_n 0, 1) := by decide +kernel
theorem dX6_product_46 : decode cX6_product 46 = .ok (.dup, 1) := by decide +kernel
theorem dX6_product_47 : decode cX6_product 47 = .ok (.getfield 27, 3) := by decide +kernel
theorem dX6_product_50 : decode cX6_product 50 = .ok (.iconst 1, 1) := by decide +kernel
theorem dX6_product_51 : decode cX6_product 51 = .ok (.iadd, 1) := by decide +kernel
theorem dX6_product_52 : decode cX6_product 52 = .ok (.putfield 27, 3) := by decide +kernel
theorem dX6_product_55 : decode cX6_product 55 = .ok (.aload_n 0, 1) := by decide +kernel
theorem dX6_product_56 : decode cX6_product 56 = .ok (.iload_n 1, 1) := by decide +kernel
theorem dX6_product_57 : decode cX6_product 57 = .ok (.invokevirtual 70, 3) := by decide +kernel
theorem dX6_product_60 : decode cX6_product 60 = .ok (.aload_n 0, 1) := by decide +kernel
theorem dX6_product_61 : decode cX6_product 61 = .ok (.iload_n 3, 1) := by decide +kernel
theorem dX6_product_62 : decode cX6_product 62 = .ok (.iconst 0, 1) := by decide +kernel
theorem dX6_product_63 : decode cX6_product 63 = .ok (.invokevirtual 50, 3) := by decide +kernel
theorem dX6_product_66 : decode cX6_product 66 = .ok (.iinc 2 1, 3) := by decide +kernel
theorem dX6_product_69 : decode cX6_product 69 = .ok (.goto (-62), 3) := by decide +kernel
theorem dX6_product_72 : decode cX6_product 72 = .ok (.return_, 1) := by decide +kernel
theorem dX6_operand_0 : decode cX6_operand 0 = .ok (.aload_n 0, 1) := by decide +kernel
theorem dX6_operand_1 : decode cX6_operand 1 = .ok (.invokevirtual 63, 3) := by decide +kernel
theorem dX6_operand_4 : decode cX6_operand 4 = .ok (.istore_n 2, 1) := by decide +kernel
theorem dX6_operand_5 : decode cX6_operand 5 = .ok (.iload_n 2, 1) := by decide +kernel
theorem dX6_operand_6 : decode cX6_operand 6 = .ok (.invokestatic 73, 3) := by decide +kernel
theorem dX6_operand_9 : decode cX6_operand 9 = .ok (.ifCond .eq 10, 3) := by decide +kernel
theorem dX6_operand_12 : decode cX6_operand 12 = .ok (.aload_n 0, 1) := by decide +kernel
theorem dX6_operand_13 : decode cX6_operand 13 = .ok (.invokevirtual 76, 3) := by decide +kernel
theorem dX6_operand_16 : decode cX6_operand 16 = .ok (.goto 138, 3) := by decide +kernel
theorem dX6_operand_19 : decode cX6_operand 19 = .ok (.iload_n 2, 1) := by decide +kernel
theorem dX6_operand_20 : decode cX6_operand 20 = .ok (.invokestatic 79, 3) := by decide +kernel
theorem dX6_operand_23 : decode cX6_operand 23 = .ok (.ifCond .lt 26, 3) := by decide +kernel
theorem dX6_operand_26 : decode cX6_operand 26 = .ok (.aload_n 0, 1) := by decide +kernel
theorem dX6_operand_27 : decode cX6_operand 27 = .ok (.dup, 1) := by decide +kernel
theorem dX6_operand_28 : decode cX6_operand 28 = .ok (.getfield 27, 3) := by decide +kernel
theorem dX6_operand_31 : decode cX6_operand 31 = .ok (.iconst 1, 1) := by decide +kernel
theorem dX6_operand_32 : decode cX6_operand 32 = .ok (.iadd, 1) := by decide +kernel
theorem dX6_operand_33 : decode cX6_operand 33 = .ok (.putfield 27, 3) := by decide +kernel
theorem dX6_operand_36 : decode cX6_operand 36 = .ok (.aload_n 0, 1) := by decide +kernel
theorem dX6_operand_37 : decode cX6_operand 37 = .ok (.bipush 110, 2) := by decide +kernel
theorem dX6_operand_39 : decode cX6_operand 39 = .ok (.iload_n 2, 1) := by decide +kernel
theorem dX6_operand_40 : decode cX6_operand 40 = .ok (.invokestatic 79, 3) := by decide +kernel
theorem dX6_operand_43 : decode cX6_operand 43 = .ok (.invokevirtual 50, 3) := by decide +kernel
theorem dX6_operand_46 : decode cX6_operand 46 = .ok (.goto 108, 3) := by decide +kernel
theorem dX6_operand_49 : decode cX6_operand 49 = .ok (.iload_n 1, 1) := by decide +kernel
theorem dX6_operand_50 : decode cX6_operand 50 = .ok (.bipush 6, 2) := by decide +kernel
theorem dX6_operand_52 : decode cX6_operand 52 = .ok (.if_icmp .ge 42, 3) := by decide +kernel
theorem dX6_operand_55 : decode cX6_operand 55 = .ok (.iload_n 2, 1) := by decide +kernel
theorem dX6_operand_56 : decode cX6_operand 56 = .ok (.bipush 40, 2) := by decide +kernel
theorem dX6_operand_58 : decode cX6_operand 58 = .ok (.if_icmp .ne 36, 3) := by decide +kernel
theorem dX6_operand_61 : decode cX6_operand 61 = .ok (.aload_n 0, 1) := by decide +kernel
theorem dX6_operand_62 : decode cX6_operand 62 = .ok (.dup, 1) := by decide +kernel
theorem dX6_operand_63 : decode cX6_operand 63 = .ok (.getfield 27, 3) := by decide +kernel
theorem dX6_operand_66 : decode cX6_operand 66 = .ok (.iconst 1, 1) := by decide +kernel
theorem dX6_operand_67 : decode cX6_operand 67 = .ok (.iadd, 1) := by decide +kernel
theorem dX6_operand_68 : decode cX6_operand 68 = .ok (.putfield 27, 3) := by decide +kernel
theorem dX6_operand_71 : decode cX6_operand 71 = .ok (.aload_n 0, 1) := by decide +kernel
theorem dX6_operand_72 : decode cX6_operand 72 = .ok (.iload_n 1, 1) := by decide +kernel
theorem dX6_operand_73 : decode cX6_operand 73 = .ok (.iconst 1, 1) := by decide +kernel
theorem dX6_operand_74 : decode cX6_operand 74 = .ok (.iadd, 1) := by decide +kernel
theorem dX6_operand_75 : decode cX6_operand 75 = .ok (.invokevirtual 46, 3) := by decide +kernel
theorem dX6_operand_78 : decode cX6_operand 78 = .ok (.aload_n 0, 1) := by decide +kernel
theorem dX6_operand_79 : decode cX6_operand 79 = .ok (.bipush 41, 2) := by decide +kernel
theorem dX6_operand_81 : decode cX6_operand 81 = .ok (.invokevirtual 39, 3) := by decide +kernel
theorem dX6_operand_84 : decode cX6_operand 84 = .ok (.ifCond .ne 70, 3) := by decide +kernel
theorem dX6_operand_87 : decode cX6_operand 87 = .ok (.aload_n 0, 1) := by decide +kernel
theorem dX6_operand_88 : decode cX6_operand 88 = .ok (.invokevirtual 43, 3) := by decide +kernel
theorem dX6_operand_91 : decode cX6_operand 91 = .ok (.goto 63, 3) := by decide +kernel
theorem dX6_operand_94 : decode cX6_operand 94 = .ok (.iload_n 1, 1) := by decide +kernel
theorem dX6_operand_95 : decode cX6_operand 95 = .ok (.bipush 6, 2) := by decide +kernel
theorem dX6_operand_97 : decode cX6_operand 97 = .ok (.if_icmp .ge 53, 3) := by decide +kernel
theorem dX6_operand_100 : decode cX6_operand 100 = .ok (.iload_n 2, 1) := by decide +kernel
theorem dX6_operand_101 : decode cX6_operand 101 = .ok (.bipush 33, 2) := by decide +kernel
theorem dX6_operand_103 : decode cX6_operand 103 = .ok (.if_icmp .eq 9, 3) := by decide +kernel
theorem dX6_operand_106 : decode cX6_operand 106 = .ok (.iload_n 2, 1) := by decide +kernel
theorem dX6_operand_107 : decode cX6_operand 107 = .ok (.bipush 45, 2) := by decide +kernel
theorem dX6_operand_109 : decode cX6_operand 109 = .ok (.if_icmp .ne 41, 3) := by decide +kernel
theorem dX6_operand_112 : decode cX6_operand 112 = .ok (.aload_n 0, 1) := by decide +kernel
theorem dX6_operand_113 : decode cX6_operand 113 = .ok (.dup, 1) := by decide +kernel
theorem dX6_operand_114 : decode cX6_operand 114 = .ok (.getfield 27, 3) := by decide +kernel
theorem dX6_operand_117 : decode cX6_operand 117 = .ok (.iconst 1, 1) := by decide +kernel
theorem dX6_operand_118 : decode cX6_operand 118 = .ok (.iadd, 1) := by decide +kernel
theorem dX6_operand_119 : decode cX6_operand 119 = .ok (.putfield 27, 3) := by decide +kernel
theorem dX6_operand_122 : decode cX6_operand 122 = .ok (.aload_n 0, 1) := by decide +kernel
theorem dX6_operand_123 : decode cX6_operand 123 = .ok (.iload_n 1, 1) := by decide +kernel
theorem dX6_operand_124 : decode cX6_operand 124 = .ok (.iconst 1, 1) := by decide +kernel
theorem dX6_operand_125 : decode cX6_operand 125 = .ok (.iadd, 1) := by decide +kernel
theorem dX6_operand_126 : decode cX6_operand 126 = .ok (.invokevirtual 70, 3) := by decide +kernel
theorem dX6_operand_129 : decode cX6_operand 129 = .ok (.aload_n 0, 1) := by decide +kernel
theorem dX6_operand_130 : decode cX6_operand 130 = .ok (.iload_n 2, 1) := by decide +kernel
theorem dX6_operand_131 : decode cX6_operand 131 = .ok (.bipush 33, 2) := by decide +kernel
theorem dX6_operand_133 : decode cX6_operand 133 = .ok (.if_icmp .ne 8, 3) := by decide +kernel
theorem dX6_operand_136 : decode cX6_operand 136 = .ok (.bipush 33, 2) := by decide +kernel
theorem dX6_operand_138 : decode cX6_operand 138 = .ok (.goto 5, 3) := by decide +kernel
theorem dX6_operand_141 : decode cX6_operand 141 = .ok (.bipush 126, 2) := by decide +kernel
theorem dX6_operand_143 : decode cX6_operand 143 = .ok (.iconst 0, 1) := by decide +kernel
theorem dX6_operand_144 : decode cX6_operand 144 = .ok (.invokevirtual 50, 3) := by decide +kernel
theorem dX6_operand_147 : decode cX6_operand 147 = .ok (.goto 7, 3) := by decide +kernel
theorem dX6_operand_150 : decode cX6_operand 150 = .ok (.aload_n 0, 1) := by decide +kernel
theorem dX6_operand_151 : decode cX6_operand 151 = .ok (.invokevirtual 43, 3) := by decide +kernel
theorem dX6_operand_154 : decode cX6_operand 154 = .ok (.return_, 1) := by decide +kernel
theorem dX6_number_0 : decode cX6_number 0 = .ok (.iconst 0, 1) := by decide +kernel
theorem dX6_number_1 : decode cX6_number 1 = .ok (.istore_n 1, 1) := by decide +kernel
theorem dX6_number_2 : decode cX6_number 2 = .ok (.iconst 0, 1) := by decide +kernel
theorem dX6_number_3 : decode cX6_number 3 = .ok (.istore_n 2, 1) := by decide +kernel
theorem dX6_number_4 : decode cX6_number 4 = .ok (.iload_n 2, 1) := by decide +kernel
theorem dX6_number_5 : decode cX6_number 5 = .ok (.iconst 4, 1) := by decide +kernel
theorem dX6_number_6 : decode cX6_number 6 = .ok (.if_icmp .ge 42, 3) := by decide +kernel
theorem dX6_number_9 : decode cX6_number 9 = .ok (.aload_n 0, 1) := by decide +kernel
theorem dX6_number_10 : decode cX6_number 10 = .ok (.invokevirtual 63, 3) := by decide +kernel
theorem dX6_number_13 : decode cX6_number 13 = .ok (.invokestatic 73, 3) := by decide +kernel
theorem dX6_number_16 : decode cX6_number 16 = .ok (.ifCond .eq 32, 3) := by decide +kernel
theorem dX6_number_19 : decode cX6_number 19 = .ok (.iload_n 1, 1) := by decide +kernel
theorem dX6_number_20 : decode cX6_number 20 = .ok (.bipush 10, 2) := by decide +kernel
theorem dX6_number_22 : decode cX6_number 22 = .ok (.imul, 1) := by decide +kernel
theorem dX6_number_23 : decode cX6_number 23 = .ok (.aload_n 0, 1) := by decide +kernel
theorem dX6_number_24 : decode cX6_number 24 = .ok (.invokevirtual 63, 3) := by decide +kernel
theorem dX6_number_27 : decode cX6_number 27 = .ok (.iadd, 1) := by decide +kernel
theorem dX6_number_28 : decode cX6_number 28 = .ok (.bipush 48, 2) := by decide +kernel
theorem dX6_number_30 : decode cX6_number 30 = .ok (.isub, 1) := by decide +kernel
theorem dX6_number_31 : decode cX6_number 31 = .ok (.istore_n 1, 1) := by decide +kernel
theorem dX6_number_32 : decode cX6_number 32 = .ok (.aload_n 0, 1) := by decide +kernel
theorem dX6_number_33 : decode cX6_number 33 = .ok (.dup, 1) := by decide +kernel
theorem dX6_number_34 : decode cX6_number 34 = .ok (.getfield 27, 3) := by decide +kernel
theorem dX6_number_37 : decode cX6_number 37 = .ok (.iconst 1, 1) := by decide +kernel
theorem dX6_number_38 : decode cX6_number 38 = .ok (.iadd, 1) := by decide +kernel
theorem dX6_number_39 : decode cX6_number 39 = .ok (.putfield 27, 3) := by decide +kernel
theorem dX6_number_42 : decode cX6_number 42 = .ok (.iinc 2 1, 3) := by decide +kernel
theorem dX6_number_45 : decode cX6_number 45 = .ok (.goto (-41), 3) := by decide +kernel
theorem dX6_number_48 : decode cX6_number 48 = .ok (.aload_n 0, 1) := by decide +kernel
theorem dX6_number_49 : decode cX6_number 49 = .ok (.bipush 48, 2) := by decide +kernel
theorem dX6_number_51 : decode cX6_number 51 = .ok (.iload_n 1, 1) := by decide +kernel
theorem dX6_number_52 : decode cX6_number 52 = .ok (.invokevirtual 50, 3) := by decide +kernel
theorem dX6_number_55 : decode cX6_number 55 = .ok (.return_, 1) := by decide +kernel
theorem dX6_letter_0 : decode cX6_letter 0 = .ok (.aload_n 0, 1) := by decide +kernel
theorem dX6_letter_1 : decode cX6_letter 1 = .ok (.getfield 30, 3) := by decide +kernel
theorem dX6_letter_4 : decode cX6_letter 4 = .ok (.ifCond .ge 42, 3) := by decide +kernel
theorem dX6_letter_7 : decode cX6_letter 7 = .ok (.aload_n 0, 1) := by decide +kernel
theorem dX6_letter_8 : decode cX6_letter 8 = .ok (.getfield 27, 3) := by decide +kernel
theorem dX6_letter_11 : decode cX6_letter 11 = .ok (.ifCond .lt 35, 3) := by decide +kernel
theorem dX6_letter_14 : decode cX6_letter 14 = .ok (.aload_n 0, 1) := by decide +kernel
theorem dX6_letter_15 : decode cX6_letter 15 = .ok (.getfield 27, 3) := by decide +kernel
theorem dX6_letter_18 : decode cX6_letter 18 = .ok (.aload_n 0, 1) := by decide +kernel
theorem dX6_letter_19 : decode cX6_letter 19 = .ok (.getfield 23, 3) := by decide +kernel
theorem dX6_letter_22 : decode cX6_letter 22 = .ok (.if_icmp .ge 24, 3) := by decide +kernel
theorem dX6_letter_25 : decode cX6_letter 25 = .ok (.aload_n 0, 1) := by decide +kernel
theorem dX6_letter_26 : decode cX6_letter 26 = .ok (.getfield 27, 3) := by decide +kernel
theorem dX6_letter_29 : decode cX6_letter 29 = .ok (.bipush 120, 2) := by decide +kernel
theorem dX6_letter_31 : decode cX6_letter 31 = .ok (.if_icmp .ge 15, 3) := by decide +kernel
theorem dX6_letter_34 : decode cX6_letter 34 = .ok (.aload_n 0, 1) := by decide +kernel
theorem dX6_letter_35 : decode cX6_letter 35 = .ok (.getfield 11, 3) := by decide +kernel
theorem dX6_letter_38 : decode cX6_letter 38 = .ok (.aload_n 0, 1) := by decide +kernel
theorem dX6_letter_39 : decode cX6_letter 39 = .ok (.getfield 27, 3) := by decide +kernel
theorem dX6_letter_42 : decode cX6_letter 42 = .ok (.iaload, 1) := by decide +kernel
theorem dX6_letter_43 : decode cX6_letter 43 = .ok (.goto 4, 3) := by decide +kernel
theorem dX6_letter_46 : decode cX6_letter 46 = .ok (.iconst (-1), 1) := by decide +kernel
theorem dX6_letter_47 : decode cX6_letter 47 = .ok (.ireturn, 1) := by decide +kernel
theorem dX6_accepts_0 : decode cX6_accepts 0 = .ok (.aload_n 0, 1) := by decide +kernel
theorem dX6_accepts_1 : decode cX6_accepts 1 = .ok (.invokevirtual 63, 3) := by decide +kernel
theorem dX6_accepts_4 : decode cX6_accepts 4 = .ok (.iload_n 1, 1) := by decide +kernel
theorem dX6_accepts_5 : decode cX6_accepts 5 = .ok (.if_icmp .eq 5, 3) := by decide +kernel
theorem dX6_accepts_8 : decode cX6_accepts 8 = .ok (.iconst 0, 1) := by decide +kernel
theorem dX6_accepts_9 : decode cX6_accepts 9 = .ok (.ireturn, 1) := by decide +kernel
theorem dX6_accepts_10 : decode cX6_accepts 10 = .ok (.aload_n 0, 1) := by decide +kernel
theorem dX6_accepts_11 : decode cX6_accepts 11 = .ok (.dup, 1) := by decide +kernel
theorem dX6_accepts_12 : decode cX6_accepts 12 = .ok (.getfield 27, 3) := by decide +kernel
theorem dX6_accepts_15 : decode cX6_accepts 15 = .ok (.iconst 1, 1) := by decide +kernel
theorem dX6_accepts_16 : decode cX6_accepts 16 = .ok (.iadd, 1) := by decide +kernel
theorem dX6_accepts_17 : decode cX6_accepts 17 = .ok (.putfield 27, 3) := by decide +kernel
theorem dX6_accepts_20 : decode cX6_accepts 20 = .ok (.iconst 1, 1) := by decide +kernel
theorem dX6_accepts_21 : decode cX6_accepts 21 = .ok (.ireturn, 1) := by decide +kernel
theorem dX6_isDigit_0 : decode cX6_isDigit 0 = .ok (.iload_n 0, 1) := by decide +kernel
theorem dX6_isDigit_1 : decode cX6_isDigit 1 = .ok (.bipush 48, 2) := by decide +kernel
theorem dX6_isDigit_3 : decode cX6_isDigit 3 = .ok (.if_icmp .lt 13, 3) := by decide +kernel
theorem dX6_isDigit_6 : decode cX6_isDigit 6 = .ok (.iload_n 0, 1) := by decide +kernel
theorem dX6_isDigit_7 : decode cX6_isDigit 7 = .ok (.bipush 57, 2) := by decide +kernel
theorem dX6_isDigit_9 : decode cX6_isDigit 9 = .ok (.if_icmp .gt 7, 3) := by decide +kernel
theorem dX6_isDigit_12 : decode cX6_isDigit 12 = .ok (.iconst 1, 1) := by decide +kernel
