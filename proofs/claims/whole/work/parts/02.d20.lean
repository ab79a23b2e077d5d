theorem dX11_image_6 : decode cX11_image 6 = .ok (.istore_n 1, 1) := by decide +kernel
theorem dX11_image_7 : decode cX11_image 7 = .ok (.iload_n 1, 1) := by decide +kernel
theorem dX11_image_8 : decode cX11_image 8 = .ok (.bipush 9, 2) := by decide +kernel
theorem dX11_image_10 : decode cX11_image 10 = .ok (.if_icmp .ge 21, 3) := by decide +kernel
theorem dX11_image_13 : decode cX11_image 13 = .ok (.aload_n 0, 1) := by decide +kernel
theorem dX11_image_14 : decode cX11_image 14 = .ok (.getfield 90, 3) := by decide +kernel
theorem dX11_image_17 : decode cX11_image 17 = .ok (.iload_n 1, 1) := by decide +kernel
theorem dX11_image_18 : decode cX11_image 18 = .ok (.aload_n 0, 1) := by decide +kernel
theorem dX11_image_19 : decode cX11_image 19 = .ok (.getfield 87, 3) := by decide +kernel
theorem dX11_image_22 : decode cX11_image 22 = .ok (.iload_n 1, 1) := by decide +kernel
theorem dX11_image_23 : decode cX11_image 23 = .ok (.iaload, 1) := by decide +kernel
theorem dX11_image_24 : decode cX11_image 24 = .ok (.iastore, 1) := by decide +kernel
theorem dX11_image_25 : decode cX11_image 25 = .ok (.iinc 1 1, 3) := by decide +kernel
theorem dX11_image_28 : decode cX11_image 28 = .ok (.goto (-21), 3) := by decide +kernel
theorem dX11_image_31 : decode cX11_image 31 = .ok (.aload_n 0, 1) := by decide +kernel
theorem dX11_image_32 : decode cX11_image 32 = .ok (.getfield 87, 3) := by decide +kernel
theorem dX11_image_35 : decode cX11_image 35 = .ok (.iconst 3, 1) := by decide +kernel
theorem dX11_image_36 : decode cX11_image 36 = .ok (.iaload, 1) := by decide +kernel
theorem dX11_image_37 : decode cX11_image 37 = .ok (.ireturn, 1) := by decide +kernel
theorem dX11_back_0 : decode cX11_back 0 = .ok (.aload_n 0, 1) := by decide +kernel
theorem dX11_back_1 : decode cX11_back 1 = .ok (.getfield 348, 3) := by decide +kernel
theorem dX11_back_4 : decode cX11_back 4 = .ok (.ifCond .ne 6, 3) := by decide +kernel
theorem dX11_back_7 : decode cX11_back 7 = .ok (.bipush (-5), 2) := by decide +kernel
theorem dX11_back_9 : decode cX11_back 9 = .ok (.ireturn, 1) := by decide +kernel
theorem dX11_back_10 : decode cX11_back 10 = .ok (.iconst 0, 1) := by decide +kernel
theorem dX11_back_11 : decode cX11_back 11 = .ok (.istore_n 1, 1) := by decide +kernel
theorem dX11_back_12 : decode cX11_back 12 = .ok (.iload_n 1, 1) := by decide +kernel
theorem dX11_back_13 : decode cX11_back 13 = .ok (.bipush 9, 2) := by decide +kernel
theorem dX11_back_15 : decode cX11_back 15 = .ok (.if_icmp .ge 21, 3) := by decide +kernel
theorem dX11_back_18 : decode cX11_back 18 = .ok (.aload_n 0, 1) := by decide +kernel
theorem dX11_back_19 : decode cX11_back 19 = .ok (.getfield 87, 3) := by decide +kernel
theorem dX11_back_22 : decode cX11_back 22 = .ok (.iload_n 1, 1) := by decide +kernel
theorem dX11_back_23 : decode cX11_back 23 = .ok (.aload_n 0, 1) := by decide +kernel
theorem dX11_back_24 : decode cX11_back 24 = .ok (.getfield 90, 3) := by decide +kernel
theorem dX11_back_27 : decode cX11_back 27 = .ok (.iload_n 1, 1) := by decide +kernel
theorem dX11_back_28 : decode cX11_back 28 = .ok (.iaload, 1) := by decide +kernel
theorem dX11_back_29 : decode cX11_back 29 = .ok (.iastore, 1) := by decide +kernel
theorem dX11_back_30 : decode cX11_back 30 = .ok (.iinc 1 1, 3) := by decide +kernel
theorem dX11_back_33 : decode cX11_back 33 = .ok (.goto (-21), 3) := by decide +kernel
theorem dX11_back_36 : decode cX11_back 36 = .ok (.aload_n 0, 1) := by decide +kernel
theorem dX11_back_37 : decode cX11_back 37 = .ok (.getfield 87, 3) := by decide +kernel
theorem dX11_back_40 : decode cX11_back 40 = .ok (.iconst 3, 1) := by decide +kernel
theorem dX11_back_41 : decode cX11_back 41 = .ok (.iaload, 1) := by decide +kernel
theorem dX11_back_42 : decode cX11_back 42 = .ok (.ireturn, 1) := by decide +kernel
theorem dX11_isBody_0 : decode cX11_isBody 0 = .ok (.iload_n 1, 1) := by decide +kernel
theorem dX11_isBody_1 : decode cX11_isBody 1 = .ok (.iconst 0, 1) := by decide +kernel
theorem dX11_isBody_2 : decode cX11_isBody 2 = .ok (.aload_n 0, 1) := by decide +kernel
theorem dX11_isBody_3 : decode cX11_isBody 3 = .ok (.getfield 351, 3) := by decide +kernel
theorem dX11_isBody_6 : decode cX11_isBody 6 = .ok (.iconst 1, 1) := by decide +kernel
theorem dX11_isBody_7 : decode cX11_isBody 7 = .ok (.isub, 1) := by decide +kernel
theorem dX11_isBody_8 : decode cX11_isBody 8 = .ok (.invokestatic 118, 3) := by decide +kernel
theorem dX11_isBody_11 : decode cX11_isBody 11 = .ok (.ireturn, 1) := by decide +kernel
theorem dX11_ran_0 : decode cX11_ran 0 = .ok (.aload_n 0, 1) := by decide +kernel
theorem dX11_ran_1 : decode cX11_ran 1 = .ok (.getfield 354, 3) := by decide +kernel
theorem dX11_ran_4 : decode cX11_ran 4 = .ok (.bipush 24, 2) := by decide +kernel
theorem dX11_ran_6 : decode cX11_ran 6 = .ok (.if_icmp .ge 13, 3) := by decide +kernel
theorem dX11_ran_9 : decode cX11_ran 9 = .ok (.aload_n 0, 1) := by decide +kernel
theorem dX11_ran_10 : decode cX11_ran 10 = .ok (.getfield 96, 3) := by decide +kernel
theorem dX11_ran_13 : decode cX11_ran 13 = .ok (.aload_n 0, 1) := by decide +kernel
theorem dX11_ran_14 : decode cX11_ran 14 = .ok (.getfield 354, 3) := by decide +kernel
theorem dX11_ran_17 : decode cX11_ran 17 = .ok (.iload_n 1, 1) := by decide +kernel
theorem dX11_ran_18 : decode cX11_ran 18 = .ok (.iastore, 1) := by decide +kernel
theorem dX11_ran_19 : decode cX11_ran 19 = .ok (.aload_n 0, 1) := by decide +kernel
theorem dX11_ran_20 : decode cX11_ran 20 = .ok (.dup, 1) := by decide +kernel
theorem dX11_ran_21 : decode cX11_ran 21 = .ok (.getfield 354, 3) := by decide +kernel
theorem dX11_ran_24 : decode cX11_ran 24 = .ok (.iconst 1, 1) := by decide +kernel
theorem dX11_ran_25 : decode cX11_ran 25 = .ok (.iadd, 1) := by decide +kernel
theorem dX11_ran_26 : decode cX11_ran 26 = .ok (.putfield 354, 3) := by decide +kernel
theorem dX11_ran_29 : decode cX11_ran 29 = .ok (.return_, 1) := by decide +kernel
theorem dX11_trace_0 : decode cX11_trace 0 = .ok (.iload_n 1, 1) := by decide +kernel
theorem dX11_trace_1 : decode cX11_trace 1 = .ok (.ifCond .lt 26, 3) := by decide +kernel
theorem dX11_trace_4 : decode cX11_trace 4 = .ok (.iload_n 1, 1) := by decide +kernel
theorem dX11_trace_5 : decode cX11_trace 5 = .ok (.aload_n 0, 1) := by decide +kernel
theorem dX11_trace_6 : decode cX11_trace 6 = .ok (.getfield 354, 3) := by decide +kernel
theorem dX11_trace_9 : decode cX11_trace 9 = .ok (.if_icmp .ge 18, 3) := by decide +kernel
theorem dX11_trace_12 : decode cX11_trace 12 = .ok (.iload_n 1, 1) := by decide +kernel
theorem dX11_trace_13 : decode cX11_trace 13 = .ok (.bipush 24, 2) := by decide +kernel
theorem dX11_trace_15 : decode cX11_trace 15 = .ok (.if_icmp .ge 12, 3) := by decide +kernel
theorem dX11_trace_18 : decode cX11_trace 18 = .ok (.aload_n 0, 1) := by decide +kernel
theorem dX11_trace_19 : decode cX11_trace 19 = .ok (.getfield 96, 3) := by decide +kernel
theorem dX11_trace_22 : decode cX11_trace 22 = .ok (.iload_n 1, 1) := by decide +kernel
theorem dX11_trace_23 : decode cX11_trace 23 = .ok (.iaload, 1) := by decide +kernel
theorem dX11_trace_24 : decode cX11_trace 24 = .ok (.goto 4, 3) := by decide +kernel
theorem dX11_trace_27 : decode cX11_trace 27 = .ok (.iconst (-1), 1) := by decide +kernel
theorem dX11_trace_28 : decode cX11_trace 28 = .ok (.ireturn, 1) := by decide +kernel
theorem dX11_body_0 : decode cX11_body 0 = .ok (.iload_n 1, 1) := by decide +kernel
theorem dX11_body_1 : decode cX11_body 1 = .ok (.iconst 0, 1) := by decide +kernel
theorem dX11_body_2 : decode cX11_body 2 = .ok (.bipush 7, 2) := by decide +kernel
theorem dX11_body_4 : decode cX11_body 4 = .ok (.invokestatic 118, 3) := by decide +kernel
theorem dX11_body_7 : decode cX11_body 7 = .ok (.ifCond .ne 5, 3) := by decide +kernel
theorem dX11_body_10 : decode cX11_body 10 = .ok (.iconst (-1), 1) := by decide +kernel
theorem dX11_body_11 : decode cX11_body 11 = .ok (.ireturn, 1) := by decide +kernel
theorem dX11_body_12 : decode cX11_body 12 = .ok (.aload_n 0, 1) := by decide +kernel
theorem dX11_body_13 : decode cX11_body 13 = .ok (.getfield 351, 3) := by decide +kernel
theorem dX11_body_16 : decode cX11_body 16 = .ok (.bipush 50, 2) := by decide +kernel
theorem dX11_body_18 : decode cX11_body 18 = .ok (.if_icmp .ne 6, 3) := by decide +kernel
theorem dX11_body_21 : decode cX11_body 21 = .ok (.bipush (-3), 2) := by decide +kernel
theorem dX11_body_23 : decode cX11_body 23 = .ok (.ireturn, 1) := by decide +kernel
theorem dX11_body_24 : decode cX11_body 24 = .ok (.aload_n 0, 1) := by decide +kernel
theorem dX11_body_25 : decode cX11_body 25 = .ok (.getfield 93, 3) := by decide +kernel
theorem dX11_body_28 : decode cX11_body 28 = .ok (.aload_n 0, 1) := by decide +kernel
theorem dX11_body_29 : decode cX11_body 29 = .ok (.getfield 351, 3) := by decide +kernel
theorem dX11_body_32 : decode cX11_body 32 = .ok (.iload_n 1, 1) := by decide +kernel
theorem dX11_body_33 : decode cX11_body 33 = .ok (.iastore, 1) := by decide +kernel
theorem dX11_body_34 : decode cX11_body 34 = .ok (.aload_n 0, 1) := by decide +kernel
theorem dX11_body_35 : decode cX11_body 35 = .ok (.dup, 1) := by decide +kernel
theorem dX11_body_36 : decode cX11_body 36 = .ok (.getfield 351, 3) := by decide +kernel
theorem dX11_body_39 : decode cX11_body 39 = .ok (.iconst 1, 1) := by decide +kernel
theorem dX11_body_40 : decode cX11_body 40 = .ok (.iadd, 1) := by decide +kernel
theorem dX11_body_41 : decode cX11_body 41 = .ok (.putfield 351, 3) := by decide +kernel
theorem dX11_body_44 : decode cX11_body 44 = .ok (.aload_n 0, 1) := by decide +kernel
theorem dX11_body_45 : decode cX11_body 45 = .ok (.getfield 351, 3) := by decide +kernel
theorem dX11_body_48 : decode cX11_body 48 = .ok (.iconst 1, 1) := by decide +kernel
theorem dX11_body_49 : decode cX11_body 49 = .ok (.isub, 1) := by decide +kernel
theorem dX11_body_50 : decode cX11_body 50 = .ok (.ireturn, 1) := by decide +kernel
theorem dX11_isUnder_0 : decode cX11_isUnder 0 = .ok (.iload_n 1, 1) := by decide +kernel
theorem dX11_isUnder_1 : decode cX11_isUnder 1 = .ok (.ifCond .eq 55, 3) := by decide +kernel
theorem dX11_isUnder_4 : decode cX11_isUnder 4 = .ok (.iload_n 0, 1) := by decide +kernel
theorem dX11_isUnder_5 : decode cX11_isUnder 5 = .ok (.iload_n 1, 1) := by decide +kernel
theorem dX11_isUnder_6 : decode cX11_isUnder 6 = .ok (.if_icmp .eq 50, 3) := by decide +kernel
theorem dX11_isUnder_9 : decode cX11_isUnder 9 = .ok (.iload_n 1, 1) := by decide +kernel
theorem dX11_isUnder_10 : decode cX11_isUnder 10 = .ok (.iconst 1, 1) := by decide +kernel
theorem dX11_isUnder_11 : decode cX11_isUnder 11 = .ok (.if_icmp .ne 8, 3) := by decide +kernel
theorem dX11_isUnder_14 : decode cX11_isUnder 14 = .ok (.iload_n 0, 1) := by decide +kernel
theorem dX11_isUnder_15 : decode cX11_isUnder 15 = .ok (.iconst 4, 1) := by decide +kernel
theorem dX11_isUnder_16 : decode cX11_isUnder 16 = .ok (.if_icmp .eq 40, 3) := by decide +kernel
theorem dX11_isUnder_19 : decode cX11_isUnder 19 = .ok (.iload_n 1, 1) := by decide +kernel
theorem dX11_isUnder_20 : decode cX11_isUnder 20 = .ok (.iconst 2, 1) := by decide +kernel
theorem dX11_isUnder_21 : decode cX11_isUnder 21 = .ok (.if_icmp .ne 13, 3) := by decide +kernel
theorem dX11_isUnder_24 : decode cX11_isUnder 24 = .ok (.iload_n 0, 1) := by decide +kernel
theorem dX11_isUnder_25 : decode cX11_isUnder 25 = .ok (.iconst 3, 1) := by decide +kernel
theorem dX11_isUnder_26 : decode cX11_isUnder 26 = .ok (.if_icmp .eq 30, 3) := by decide +kernel
theorem dX11_isUnder_29 : decode cX11_isUnder 29 = .ok (.iload_n 0, 1) := by decide +kernel
theorem dX11_isUnder_30 : decode cX11_isUnder 30 = .ok (.iconst 5, 1) := by decide +kernel
theorem dX11_isUnder_31 : decode cX11_isUnder 31 = .ok (.if_icmp .eq 25, 3) := by decide +kernel
theorem dX11_isUnder_34 : decode cX11_isUnder 34 = .ok (.iload_n 1, 1) := by decide +kernel
theorem dX11_isUnder_35 : decode cX11_isUnder 35 = .ok (.iconst 3, 1) := by decide +kernel
theorem dX11_isUnder_36 : decode cX11_isUnder 36 = .ok (.if_icmp .ne 8, 3) := by decide +kernel
theorem dX11_isUnder_39 : decode cX11_isUnder 39 = .ok (.iload_n 0, 1) := by decide +kernel
theorem dX11_isUnder_40 : decode cX11_isUnder 40 = .ok (.iconst 5, 1) := by decide +kernel
theorem dX11_isUnder_41 : decode cX11_isUnder 41 = .ok (.if_icmp .eq 15, 3) := by decide +kernel
theorem dX11_isUnder_44 : decode cX11_isUnder 44 = .ok (.iload_n 1, 1) := by decide +kernel
theorem dX11_isUnder_45 : decode cX11_isUnder 45 = .ok (.bipush 6, 2) := by decide +kernel
theorem dX11_isUnder_47 : decode cX11_isUnder 47 = .ok (.if_icmp .ne 13, 3) := by decide +kernel
theorem dX11_isUnder_50 : decode cX11_isUnder 50 = .ok (.iload_n 0, 1) := by decide +kernel
theorem dX11_isUnder_51 : decode cX11_isUnder 51 = .ok (.bipush 7, 2) := by decide +kernel
theorem dX11_isUnder_53 : decode cX11_isUnder 53 = .ok (.if_icmp .ne 7, 3) := by decide +kernel
theorem dX11_isUnder_56 : decode cX11_isUnder 56 = .ok (.iconst 1, 1) := by decide +kernel
theorem dX11_isUnder_57 : decode cX11_isUnder 57 = .ok (.goto 4, 3) := by decide +kernel
theorem dX11_isUnder_60 : decode cX11_isUnder 60 = .ok (.iconst 0, 1) := by decide +kernel
theorem dX11_isUnder_61 : decode cX11_isUnder 61 = .ok (.ireturn, 1) := by decide +kernel
theorem dX11_plainGoes_0 : decode cX11_plainGoes 0 = .ok (.aload_n 0, 1) := by decide +kernel
theorem dX11_plainGoes_1 : decode cX11_plainGoes 1 = .ok (.iconst 1, 1) := by decide +kernel
theorem dX11_plainGoes_2 : decode cX11_plainGoes 2 = .ok (.invokevirtual 357, 3) := by decide +kernel
theorem dX11_plainGoes_5 : decode cX11_plainGoes 5 = .ok (.iload_n 2, 1) := by decide +kernel
theorem dX11_plainGoes_6 : decode cX11_plainGoes 6 = .ok (.iload_n 1, 1) := by decide +kernel
theorem dX11_plainGoes_7 : decode cX11_plainGoes 7 = .ok (.iadd, 1) := by decide +kernel
theorem dX11_plainGoes_8 : decode cX11_plainGoes 8 = .ok (.ireturn, 1) := by decide +kernel
theorem dX11_leftGoes_0 : decode cX11_leftGoes 0 = .ok (.aload_n 0, 1) := by decide +kernel
theorem dX11_leftGoes_1 : decode cX11_leftGoes 1 = .ok (.bipush 70, 2) := by decide +kernel
theorem dX11_leftGoes_3 : decode cX11_leftGoes 3 = .ok (.invokevirtual 357, 3) := by decide +kernel
theorem dX11_leftGoes_6 : decode cX11_leftGoes 6 = .ok (.aload_n 0, 1) := by decide +kernel
theorem dX11_leftGoes_7 : decode cX11_leftGoes 7 = .ok (.iload_n 1, 1) := by decide +kernel
theorem dX11_leftGoes_8 : decode cX11_leftGoes 8 = .ok (.iload_n 2, 1) := by decide +kernel
theorem dX11_leftGoes_9 : decode cX11_leftGoes 9 = .ok (.invokevirtual 360, 3) := by decide +kernel
theorem dX11_leftGoes_12 : decode cX11_leftGoes 12 = .ok (.iconst 2, 1) := by decide +kernel
theorem dX11_leftGoes_13 : decode cX11_leftGoes 13 = .ok (.imul, 1) := by decide +kernel
theorem dX11_leftGoes_14 : decode cX11_leftGoes 14 = .ok (.ireturn, 1) := by decide +kernel
theorem dX11_goesOf_0 : decode cX11_goesOf 0 = .ok (.aload_n 0, 1) := by decide +kernel
theorem dX11_goesOf_1 : decode cX11_goesOf 1 = .ok (.getfield 93, 3) := by decide +kernel
theorem dX11_goesOf_4 : decode cX11_goesOf 4 = .ok (.iload_n 1, 1) := by decide +kernel
theorem dX11_goesOf_5 : decode cX11_goesOf 5 = .ok (.iaload, 1) := by decide +kernel
theorem dX11_goesOf_6 : decode cX11_goesOf 6 = .ok (.iconst 1, 1) := by decide +kernel
theorem dX11_goesOf_7 : decode cX11_goesOf 7 = .ok (.invokestatic 363, 3) := by decide +kernel
theorem dX11_goesOf_10 : decode cX11_goesOf 10 = .ok (.ifCond .eq 18, 3) := by decide +kernel
theorem dX11_goesOf_13 : decode cX11_goesOf 13 = .ok (.aload_n 0, 1) := by decide +kernel
theorem dX11_goesOf_14 : decode cX11_goesOf 14 = .ok (.bipush 20, 2) := by decide +kernel
theorem dX11_goesOf_16 : decode cX11_goesOf 16 = .ok (.invokevirtual 357, 3) := by decide +kernel
theorem dX11_goesOf_19 : decode cX11_goesOf 19 = .ok (.aload_n 0, 1) := by decide +kernel
theorem dX11_goesOf_20 : decode cX11_goesOf 20 = .ok (.iload_n 1, 1) := by decide +kernel
theorem dX11_goesOf_21 : decode cX11_goesOf 21 = .ok (.iload_n 2, 1) := by decide +kernel
theorem dX11_goesOf_22 : decode cX11_goesOf 22 = .ok (.invokevirtual 360, 3) := by decide +kernel
theorem dX11_goesOf_25 : decode cX11_goesOf 25 = .ok (.iconst 3, 1) := by decide +kernel
theorem dX11_goesOf_26 : decode cX11_goesOf 26 = .ok (.iadd, 1) := by decide +kernel
theorem dX11_goesOf_27 : decode cX11_goesOf 27 = .ok (.ireturn, 1) := by decide +kernel
theorem dX11_goesOf_28 : decode cX11_goesOf 28 = .ok (.aload_n 0, 1) := by decide +kernel
theorem dX11_goesOf_29 : decode cX11_goesOf 29 = .ok (.getfield 93, 3) := by decide +kernel
theorem dX11_goesOf_32 : decode cX11_goesOf 32 = .ok (.iload_n 1, 1) := by decide +kernel
theorem dX11_goesOf_33 : decode cX11_goesOf 33 = .ok (.iaload, 1) := by decide +kernel
theorem dX11_goesOf_34 : decode cX11_goesOf 34 = .ok (.bipush 7, 2) := by decide +kernel
theorem dX11_goesOf_36 : decode cX11_goesOf 36 = .ok (.if_icmp .ne 18, 3) := by decide +kernel
theorem dX11_goesOf_39 : decode cX11_goesOf 39 = .ok (.aload_n 0, 1) := by decide +kernel
theorem dX11_goesOf_40 : decode cX11_goesOf 40 = .ok (.bipush 81, 2) := by decide +kernel
theorem dX11_goesOf_42 : decode cX11_goesOf 42 = .ok (.invokevirtual 357, 3) := by decide +kernel
theorem dX11_goesOf_45 : decode cX11_goesOf 45 = .ok (.aload_n 0, 1) := by decide +kernel
theorem dX11_goesOf_46 : decode cX11_goesOf 46 = .ok (.iload_n 1, 1) := by decide +kernel
theorem dX11_goesOf_47 : decode cX11_goesOf 47 = .ok (.iload_n 2, 1) := by decide +kernel
theorem dX11_goesOf_48 : decode cX11_goesOf 48 = .ok (.invokevirtual 366, 3) := by decide +kernel
theorem dX11_goesOf_51 : decode cX11_goesOf 51 = .ok (.iconst 1, 1) := by decide +kernel
theorem dX11_goesOf_52 : decode cX11_goesOf 52 = .ok (.isub, 1) := by decide +kernel
theorem dX11_goesOf_53 : decode cX11_goesOf 53 = .ok (.ireturn, 1) := by decide +kernel
theorem dX11_goesOf_54 : decode cX11_goesOf 54 = .ok (.aload_n 0, 1) := by decide +kernel
theorem dX11_goesOf_55 : decode cX11_goesOf 55 = .ok (.getfield 93, 3) := by decide +kernel
theorem dX11_goesOf_58 : decode cX11_goesOf 58 = .ok (.iload_n 1, 1) := by decide +kernel
theorem dX11_goesOf_59 : decode cX11_goesOf 59 = .ok (.iaload, 1) := by decide +kernel
theorem dX11_goesOf_60 : decode cX11_goesOf 60 = .ok (.bipush 6, 2) := by decide +kernel
theorem dX11_goesOf_62 : decode cX11_goesOf 62 = .ok (.if_icmp .ne 12, 3) := by decide +kernel
theorem dX11_goesOf_65 : decode cX11_goesOf 65 = .ok (.aload_n 0, 1) := by decide +kernel
theorem dX11_goesOf_66 : decode cX11_goesOf 66 = .ok (.iload_n 1, 1) := by decide +kernel
theorem dX11_goesOf_67 : decode cX11_goesOf 67 = .ok (.iload_n 2, 1) := by decide +kernel
theorem dX11_goesOf_68 : decode cX11_goesOf 68 = .ok (.invokevirtual 366, 3) := by decide +kernel
theorem dX11_goesOf_71 : decode cX11_goesOf 71 = .ok (.goto 9, 3) := by decide +kernel
theorem dX11_goesOf_74 : decode cX11_goesOf 74 = .ok (.aload_n 0, 1) := by decide +kernel
theorem dX11_goesOf_75 : decode cX11_goesOf 75 = .ok (.iload_n 1, 1) := by decide +kernel
theorem dX11_goesOf_76 : decode cX11_goesOf 76 = .ok (.iload_n 2, 1) := by decide +kernel
theorem dX11_goesOf_77 : decode cX11_goesOf 77 = .ok (.invokevirtual 360, 3) := by decide +kernel
theorem dX11_goesOf_80 : decode cX11_goesOf 80 = .ok (.ireturn, 1) := by decide +kernel
theorem dX11_plainFinds_0 : decode cX11_plainFinds 0 = .ok (.aload_n 0, 1) := by decide +kernel
theorem dX11_plainFinds_1 : decode cX11_plainFinds 1 = .ok (.bipush 10, 2) := by decide +kernel
theorem dX11_plainFinds_3 : decode cX11_plainFinds 3 = .ok (.invokevirtual 357, 3) := by decide +kernel
theorem dX11_plainFinds_6 : decode cX11_plainFinds 6 = .ok (.aload_n 0, 1) := by decide +kernel
theorem dX11_plainFinds_7 : decode cX11_plainFinds 7 = .ok (.iload_n 1, 1) := by decide +kernel
theorem dX11_plainFinds_8 : decode cX11_plainFinds 8 = .ok (.iload_n 2, 1) := by decide +kernel
theorem dX11_plainFinds_9 : decode cX11_plainFinds 9 = .ok (.invokevirtual 369, 3) := by decide +kernel
theorem dX11_plainFinds_12 : decode cX11_plainFinds 12 = .ok (.iconst 2, 1) := by decide +kernel
theorem dX11_plainFinds_13 : decode cX11_plainFinds 13 = .ok (.imul, 1) := by decide +kernel
theorem dX11_plainFinds_14 : decode cX11_plainFinds 14 = .ok (.ireturn, 1) := by decide +kernel
theorem dX11_longFinds_0 : decode cX11_longFinds 0 = .ok (.aload_n 0, 1) := by decide +kernel
theorem dX11_longFinds_1 : decode cX11_longFinds 1 = .ok (.bipush 30, 2) := by decide +kernel
theorem dX11_longFinds_3 : decode cX11_longFinds 3 = .ok (.invokevirtual 357, 3) := by decide +kernel
theorem dX11_longFinds_6 : decode cX11_longFinds 6 = .ok (.aload_n 0, 1) := by decide +kernel
theorem dX11_longFinds_7 : decode cX11_longFinds 7 = .ok (.iload_n 1, 1) := by decide +kernel
theorem dX11_longFinds_8 : decode cX11_longFinds 8 = .ok (.iload_n 2, 1) := by decide +kernel
theorem dX11_longFinds_9 : decode cX11_longFinds 9 = .ok (.invokevirtual 372, 3) := by decide +kernel
theorem dX11_longFinds_12 : decode cX11_longFinds 12 = .ok (.ineg, 1) := by decide +kernel
theorem dX11_longFinds_13 : decode cX11_longFinds 13 = .ok (.ireturn, 1) := by decide +kernel
theorem dX11_finding_0 : decode cX11_finding 0 = .ok (.aload_n 0, 1) := by decide +kernel
theorem dX11_finding_1 : decode cX11_finding 1 = .ok (.getfield 93, 3) := by decide +kernel
theorem dX11_finding_4 : decode cX11_finding 4 = .ok (.iload_n 1, 1) := by decide +kernel
theorem dX11_finding_5 : decode cX11_finding 5 = .ok (.iaload, 1) := by decide +kernel
theorem dX11_finding_6 : decode cX11_finding 6 = .ok (.iconst 3, 1) := by decide +kernel
theorem dX11_finding_7 : decode cX11_finding 7 = .ok (.invokestatic 363, 3) := by decide +kernel
theorem dX11_finding_10 : decode cX11_finding 10 = .ok (.ifCond .eq 18, 3) := by decide +kernel
theorem dX11_finding_13 : decode cX11_finding 13 = .ok (.aload_n 0, 1) := by decide +kernel
theorem dX11_finding_14 : decode cX11_finding 14 = .ok (.bipush 41, 2) := by decide +kernel
theorem dX11_finding_16 : decode cX11_finding 16 = .ok (.invokevirtual 357, 3) := by decide +kernel
theorem dX11_finding_19 : decode cX11_finding 19 = .ok (.aload_n 0, 1) := by decide +kernel
theorem dX11_finding_20 : decode cX11_finding 20 = .ok (.iload_n 1, 1) := by decide +kernel
theorem dX11_finding_21 : decode cX11_finding 21 = .ok (.iload_n 2, 1) := by decide +kernel
theorem dX11_finding_22 : decode cX11_finding 22 = .ok (.iconst 1, 1) := by decide +kernel
theorem dX11_finding_23 : decode cX11_finding 23 = .ok (.iadd, 1) := by decide +kernel
theorem dX11_finding_24 : decode cX11_finding 24 = .ok (.invokevirtual 375, 3) := by decide +kernel
theorem dX11_finding_27 : decode cX11_finding 27 = .ok (.ireturn, 1) := by decide +kernel
theorem dX11_finding_28 : decode cX11_finding 28 = .ok (.aload_n 0, 1) := by decide +kernel
theorem dX11_finding_29 : decode cX11_finding 29 = .ok (.getfield 93, 3) := by decide +kernel
theorem dX11_finding_32 : decode cX11_finding 32 = .ok (.iload_n 1, 1) := by decide +kernel
theorem dX11_finding_33 : decode cX11_finding 33 = .ok (.iaload, 1) := by decide +kernel
theorem dX11_finding_34 : decode cX11_finding 34 = .ok (.bipush 7, 2) := by decide +kernel
theorem dX11_finding_36 : decode cX11_finding 36 = .ok (.if_icmp .ne 25, 3) := by decide +kernel
theorem dX11_finding_39 : decode cX11_finding 39 = .ok (.aload_n 0, 1) := by decide +kernel
theorem dX11_finding_40 : decode cX11_finding 40 = .ok (.bipush 80, 2) := by decide +kernel
theorem dX11_finding_42 : decode cX11_finding 42 = .ok (.invokevirtual 357, 3) := by decide +kernel
theorem dX11_finding_45 : decode cX11_finding 45 = .ok (.aload_n 0, 1) := by decide +kernel
theorem dX11_finding_46 : decode cX11_finding 46 = .ok (.iload_n 1, 1) := by decide +kernel
theorem dX11_finding_47 : decode cX11_finding 47 = .ok (.iload_n 2, 1) := by decide +kernel
theorem dX11_finding_48 : decode cX11_finding 48 = .ok (.invokevirtual 372, 3) := by decide +kernel
theorem dX11_finding_51 : decode cX11_finding 51 = .ok (.istore_n 3, 1) := by decide +kernel
theorem dX11_finding_52 : decode cX11_finding 52 = .ok (.iload_n 3, 1) := by decide +kernel
theorem dX11_finding_53 : decode cX11_finding 53 = .ok (.aload_n 0, 1) := by decide +kernel
theorem dX11_finding_54 : decode cX11_finding 54 = .ok (.iload_n 1, 1) := by decide +kernel
theorem dX11_finding_55 : decode cX11_finding 55 = .ok (.iconst 2, 1) := by decide +kernel
theorem dX11_finding_56 : decode cX11_finding 56 = .ok (.invokevirtual 378, 3) := by decide +kernel
theorem dX11_finding_59 : decode cX11_finding 59 = .ok (.iadd, 1) := by decide +kernel
theorem dX11_finding_60 : decode cX11_finding 60 = .ok (.ireturn, 1) := by decide +kernel
theorem dX11_finding_61 : decode cX11_finding 61 = .ok (.aload_n 0, 1) := by decide +kernel
theorem dX11_finding_62 : decode cX11_finding 62 = .ok (.getfield 93, 3) := by decide +kernel
theorem dX11_finding_65 : decode cX11_finding 65 = .ok (.iload_n 1, 1) := by decide +kernel
theorem dX11_finding_66 : decode cX11_finding 66 = .ok (.iaload, 1) := by decide +kernel
theorem dX11_finding_67 : decode cX11_finding 67 = .ok (.iconst 2, 1) := by decide +kernel
theorem dX11_finding_68 : decode cX11_finding 68 = .ok (.if_icmp .ne 12, 3) := by decide +kernel
theorem dX11_finding_71 : decode cX11_finding 71 = .ok (.aload_n 0, 1) := by decide +kernel
theorem dX11_finding_72 : decode cX11_finding 72 = .ok (.iload_n 1, 1) := by decide +kernel
theorem dX11_finding_73 : decode cX11_finding 73 = .ok (.iload_n 2, 1) := by decide +kernel
theorem dX11_finding_74 : decode cX11_finding 74 = .ok (.invokevirtual 375, 3) := by decide +kernel
theorem dX11_finding_77 : decode cX11_finding 77 = .ok (.goto 9, 3) := by decide +kernel
theorem dX11_finding_80 : decode cX11_finding 80 = .ok (.aload_n 0, 1) := by decide +kernel
theorem dX11_finding_81 : decode cX11_finding 81 = .ok (.iload_n 1, 1) := by decide +kernel
theorem dX11_finding_82 : decode cX11_finding 82 = .ok (.iload_n 2, 1) := by decide +kernel
theorem dX11_finding_83 : decode cX11_finding 83 = .ok (.invokevirtual 372, 3) := by decide +kernel
theorem dX11_finding_86 : decode cX11_finding 86 = .ok (.ireturn, 1) := by decide +kernel
theorem dX11_plainSets_0 : decode cX11_plainSets 0 = .ok (.aload_n 0, 1) := by decide +kernel
theorem dX11_plainSets_1 : decode cX11_plainSets 1 = .ok (.bipush 11, 2) := by decide +kernel
theorem dX11_plainSets_3 : decode cX11_plainSets 3 = .ok (.invokevirtual 357, 3) := by decide +kernel
theorem dX11_plainSets_6 : decode cX11_plainSets 6 = .ok (.iload_n 2, 1) := by decide +kernel
theorem dX11_plainSets_7 : decode cX11_plainSets 7 = .ok (.iload_n 1, 1) := by decide +kernel
theorem dX11_plainSets_8 : decode cX11_plainSets 8 = .ok (.ixor, 1) := by decide +kernel
theorem dX11_plainSets_9 : decode cX11_plainSets 9 = .ok (.ireturn, 1) := by decide +kernel
theorem dX11_offSets_0 : decode cX11_offSets 0 = .ok (.aload_n 0, 1) := by decide +kernel
theorem dX11_offSets_1 : decode cX11_offSets 1 = .ok (.bipush 40, 2) := by decide +kernel
theorem dX11_offSets_3 : decode cX11_offSets 3 = .ok (.invokevirtual 357, 3) := by decide +kernel
theorem dX11_offSets_6 : decode cX11_offSets 6 = .ok (.aload_n 0, 1) := by decide +kernel
theorem dX11_offSets_7 : decode cX11_offSets 7 = .ok (.iload_n 1, 1) := by decide +kernel
theorem dX11_offSets_8 : decode cX11_offSets 8 = .ok (.iload_n 2, 1) := by decide +kernel
theorem dX11_offSets_9 : decode cX11_offSets 9 = .ok (.invokevirtual 381, 3) := by decide +kernel
theorem dX11_offSets_12 : decode cX11_offSets 12 = .ok (.iconst 3, 1) := by decide +kernel
theorem dX11_offSets_13 : decode cX11_offSets 13 = .ok (.imul, 1) := by decide +kernel
theorem dX11_offSets_14 : decode cX11_offSets 14 = .ok (.ireturn, 1) := by decide +kernel
theorem dX11_setting_0 : decode cX11_setting 0 = .ok (.aload_n 0, 1) := by decide +kernel
theorem dX11_setting_1 : decode cX11_setting 1 = .ok (.getfield 93, 3) := by decide +kernel
theorem dX11_setting_4 : decode cX11_setting 4 = .ok (.iload_n 1, 1) := by decide +kernel
theorem dX11_setting_5 : decode cX11_setting 5 = .ok (.iaload, 1) := by decide +kernel
theorem dX11_setting_6 : decode cX11_setting 6 = .ok (.iconst 5, 1) := by decide +kernel
theorem dX11_setting_7 : decode cX11_setting 7 = .ok (.if_icmp .ne 25, 3) := by decide +kernel
theorem dX11_setting_10 : decode cX11_setting 10 = .ok (.aload_n 0, 1) := by decide +kernel
theorem dX11_setting_11 : decode cX11_setting 11 = .ok (.bipush 60, 2) := by decide +kernel
theorem dX11_setting_13 : decode cX11_setting 13 = .ok (.invokevirtual 357, 3) := by decide +kernel
theorem dX11_setting_16 : decode cX11_setting 16 = .ok (.aload_n 0, 1) := by decide +kernel
theorem dX11_setting_17 : decode cX11_setting 17 = .ok (.iload_n 1, 1) := by decide +kernel
theorem dX11_setting_18 : decode cX11_setting 18 = .ok (.iload_n 2, 1) := by decide +kernel
theorem dX11_setting_19 : decode cX11_setting 19 = .ok (.invokevirtual 384, 3) := by decide +kernel
theorem dX11_setting_22 : decode cX11_setting 22 = .ok (.istore_n 3, 1) := by decide +kernel
theorem dX11_setting_23 : decode cX11_setting 23 = .ok (.iload_n 3, 1) := by decide +kernel
theorem dX11_setting_24 : decode cX11_setting 24 = .ok (.aload_n 0, 1) := by decide +kernel
theorem dX11_setting_25 : decode cX11_setting 25 = .ok (.iload_n 1, 1) := by decide +kernel
theorem dX11_setting_26 : decode cX11_setting 26 = .ok (.iconst 2, 1) := by decide +kernel
theorem dX11_setting_27 : decode cX11_setting 27 = .ok (.invokevirtual 369, 3) := by decide +kernel
theorem dX11_setting_30 : decode cX11_setting 30 = .ok (.isub, 1) := by decide +kernel
theorem dX11_setting_31 : decode cX11_setting 31 = .ok (.ireturn, 1) := by decide +kernel
theorem dX11_setting_32 : decode cX11_setting 32 = .ok (.aload_n 0, 1) := by decide +kernel
theorem dX11_setting_33 : decode cX11_setting 33 = .ok (.getfield 93, 3) := by decide +kernel
theorem dX11_setting_36 : decode cX11_setting 36 = .ok (.iload_n 1, 1) := by decide +kernel
theorem dX11_setting_37 : decode cX11_setting 37 = .ok (.iaload, 1) := by decide +kernel
theorem dX11_setting_38 : decode cX11_setting 38 = .ok (.iconst 3, 1) := by decide +kernel
theorem dX11_setting_39 : decode cX11_setting 39 = .ok (.if_icmp .ne 12, 3) := by decide +kernel
theorem dX11_setting_42 : decode cX11_setting 42 = .ok (.aload_n 0, 1) := by decide +kernel
theorem dX11_setting_43 : decode cX11_setting 43 = .ok (.iload_n 1, 1) := by decide +kernel
theorem dX11_setting_44 : decode cX11_setting 44 = .ok (.iload_n 2, 1) := by decide +kernel
theorem dX11_setting_45 : decode cX11_setting 45 = .ok (.invokevirtual 384, 3) := by decide +kernel
theorem dX11_setting_48 : decode cX11_setting 48 = .ok (.goto 9, 3) := by decide +kernel
theorem dX11_setting_51 : decode cX11_setting 51 = .ok (.aload_n 0, 1) := by decide +kernel
theorem dX11_setting_52 : decode cX11_setting 52 = .ok (.iload_n 1, 1) := by decide +kernel
theorem dX11_setting_53 : decode cX11_setting 53 = .ok (.iload_n 2, 1) := by decide +kernel
theorem dX11_setting_54 : decode cX11_setting 54 = .ok (.invokevirtual 381, 3) := by decide +kernel
theorem dX11_setting_57 : decode cX11_setting 57 = .ok (.ireturn, 1) := by decide +kernel
theorem dX11_plainTells_0 : decode cX11_plainTells 0 = .ok (.aload_n 0, 1) := by decide +kernel
theorem dX11_plainTells_1 : decode cX11_plainTells 1 = .ok (.iconst 2, 1) := by decide +kernel
theorem dX11_plainTells_2 : decode cX11_plainTells 2 = .ok (.invokevirtual 357, 3) := by decide +kernel
theorem dX11_plainTells_5 : decode cX11_plainTells 5 = .ok (.aload_n 0, 1) := by decide +kernel
theorem dX11_plainTells_6 : decode cX11_plainTells 6 = .ok (.iload_n 1, 1) := by decide +kernel
theorem dX11_plainTells_7 : decode cX11_plainTells 7 = .ok (.iload_n 2, 1) := by decide +kernel
theorem dX11_plainTells_8 : decode cX11_plainTells 8 = .ok (.invokevirtual 387, 3) := by decide +kernel
theorem dX11_plainTells_11 : decode cX11_plainTells 11 = .ok (.istore_n 3, 1) := by decide +kernel
theorem dX11_plainTells_12 : decode cX11_plainTells 12 = .ok (.iload_n 3, 1) := by decide +kernel
theorem dX11_plainTells_13 : decode cX11_plainTells 13 = .ok (.aload_n 0, 1) := by decide +kernel
theorem dX11_plainTells_14 : decode cX11_plainTells 14 = .ok (.iload_n 1, 1) := by decide +kernel
theorem dX11_plainTells_15 : decode cX11_plainTells 15 = .ok (.iconst 1, 1) := by decide +kernel
theorem dX11_plainTells_16 : decode cX11_plainTells 16 = .ok (.invokevirtual 378, 3) := by decide +kernel
theorem dX11_plainTells_19 : decode cX11_plainTells 19 = .ok (.isub, 1) := by decide +kernel
theorem dX11_plainTells_20 : decode cX11_plainTells 20 = .ok (.ireturn, 1) := by decide +kernel
theorem dX11_telling_0 : decode cX11_telling 0 = .ok (.aload_n 0, 1) := by decide +kernel
theorem dX11_telling_1 : decode cX11_telling 1 = .ok (.getfield 93, 3) := by decide +kernel
theorem dX11_telling_4 : decode cX11_telling 4 = .ok (.iload_n 1, 1) := by decide +kernel
theorem dX11_telling_5 : decode cX11_telling 5 = .ok (.iaload, 1) := by decide +kernel
theorem dX11_telling_6 : decode cX11_telling 6 = .ok (.iconst 4, 1) := by decide +kernel
theorem dX11_telling_7 : decode cX11_telling 7 = .ok (.if_icmp .ne 18, 3) := by decide +kernel
theorem dX11_telling_10 : decode cX11_telling 10 = .ok (.aload_n 0, 1) := by decide +kernel
theorem dX11_telling_11 : decode cX11_telling 11 = .ok (.bipush 50, 2) := by decide +kernel
theorem dX11_telling_13 : decode cX11_telling 13 = .ok (.invokevirtual 357, 3) := by decide +kernel
theorem dX11_telling_16 : decode cX11_telling 16 = .ok (.aload_n 0, 1) := by decide +kernel
theorem dX11_telling_17 : decode cX11_telling 17 = .ok (.iload_n 1, 1) := by decide +kernel
theorem dX11_telling_18 : decode cX11_telling 18 = .ok (.iload_n 2, 1) := by decide +kernel
theorem dX11_telling_19 : decode cX11_telling 19 = .ok (.invokevirtual 390, 3) := by decide +kernel
theorem dX11_telling_22 : decode cX11_telling 22 = .ok (.iconst 5, 1) := by decide +kernel
theorem dX11_telling_23 : decode cX11_telling 23 = .ok (.ixor, 1) := by decide +kernel
theorem dX11_telling_24 : decode cX11_telling 24 = .ok (.ireturn, 1) := by decide +kernel
theorem dX11_telling_25 : decode cX11_telling 25 = .ok (.aload_n 0, 1) := by decide +kernel
theorem dX11_telling_26 : decode cX11_telling 26 = .ok (.getfield 93, 3) := by decide +kernel
theorem dX11_telling_29 : decode cX11_telling 29 = .ok (.iload_n 1, 1) := by decide +kernel
theorem dX11_telling_30 : decode cX11_telling 30 = .ok (.iaload, 1) := by decide +kernel
theorem dX11_telling_31 : decode cX11_telling 31 = .ok (.iconst 5, 1) := by decide +kernel
theorem dX11_telling_32 : decode cX11_telling 32 = .ok (.if_icmp .ne 18, 3) := by decide +kernel
theorem dX11_telling_35 : decode cX11_telling 35 = .ok (.aload_n 0, 1) := by decide +kernel
theorem dX11_telling_36 : decode cX11_telling 36 = .ok (.bipush 61, 2) := by decide +kernel
theorem dX11_telling_38 : decode cX11_telling 38 = .ok (.invokevirtual 357, 3) := by decide +kernel
theorem dX11_telling_41 : decode cX11_telling 41 = .ok (.aload_n 0, 1) := by decide +kernel
theorem dX11_telling_42 : decode cX11_telling 42 = .ok (.iload_n 1, 1) := by decide +kernel
theorem dX11_telling_43 : decode cX11_telling 43 = .ok (.iload_n 2, 1) := by decide +kernel
theorem dX11_telling_44 : decode cX11_telling 44 = .ok (.invokevirtual 390, 3) := by decide +kernel
theorem dX11_telling_47 : decode cX11_telling 47 = .ok (.iconst 1, 1) := by decide +kernel
theorem dX11_telling_48 : decode cX11_telling 48 = .ok (.iadd, 1) := by decide +kernel
theorem dX11_telling_49 : decode cX11_telling 49 = .ok (.ireturn, 1) := by decide +kernel
theorem dX11_telling_50 : decode cX11_telling 50 = .ok (.aload_n 0, 1) := by decide +kernel
theorem dX11_telling_51 : decode cX11_telling 51 = .ok (.iload_n 1, 1) := by decide +kernel
theorem dX11_telling_52 : decode cX11_telling 52 = .ok (.iload_n 2, 1) := by decide +kernel
theorem dX11_telling_53 : decode cX11_telling 53 = .ok (.invokevirtual 390, 3) := by decide +kernel
theorem dX11_telling_56 : decode cX11_telling 56 = .ok (.ireturn, 1) := by decide +kernel
theorem dX11_act_0 : decode cX11_act 0 = .ok (.aload_n 0, 1) := by decide +kernel
theorem dX11_act_1 : decode cX11_act 1 = .ok (.iconst 0, 1) := by decide +kernel
theorem dX11_act_2 : decode cX11_act 2 = .ok (.putfield 354, 3) := by decide +kernel
theorem dX11_act_5 : decode cX11_act 5 = .ok (.aload_n 0, 1) := by decide +kernel
