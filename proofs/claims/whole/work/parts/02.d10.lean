theorem dX10_led_62 : decode cX10_led 62 = .ok (.getfield 136, 3) := by decide +kernel
theorem dX10_led_65 : decode cX10_led 65 = .ok (.ireturn, 1) := by decide +kernel
theorem dX10_led_66 : decode cX10_led 66 = .ok (.aload_n 0, 1) := by decide +kernel
theorem dX10_led_67 : decode cX10_led 67 = .ok (.getfield 56, 3) := by decide +kernel
theorem dX10_led_70 : decode cX10_led 70 = .ok (.getfield 232, 3) := by decide +kernel
theorem dX10_led_73 : decode cX10_led 73 = .ok (.getfield 139, 3) := by decide +kernel
theorem dX10_led_76 : decode cX10_led 76 = .ok (.ireturn, 1) := by decide +kernel
theorem dX10_led_77 : decode cX10_led 77 = .ok (.aload_n 0, 1) := by decide +kernel
theorem dX10_led_78 : decode cX10_led 78 = .ok (.getfield 56, 3) := by decide +kernel
theorem dX10_led_81 : decode cX10_led 81 = .ok (.getfield 232, 3) := by decide +kernel
theorem dX10_led_84 : decode cX10_led 84 = .ok (.getfield 142, 3) := by decide +kernel
theorem dX10_led_87 : decode cX10_led 87 = .ok (.ireturn, 1) := by decide +kernel
theorem dX10_led_88 : decode cX10_led 88 = .ok (.aload_n 0, 1) := by decide +kernel
theorem dX10_led_89 : decode cX10_led 89 = .ok (.getfield 56, 3) := by decide +kernel
theorem dX10_led_92 : decode cX10_led 92 = .ok (.getfield 248, 3) := by decide +kernel
theorem dX10_led_95 : decode cX10_led 95 = .ok (.ireturn, 1) := by decide +kernel
theorem dX10_led_96 : decode cX10_led 96 = .ok (.aload_n 0, 1) := by decide +kernel
theorem dX10_led_97 : decode cX10_led 97 = .ok (.getfield 56, 3) := by decide +kernel
theorem dX10_led_100 : decode cX10_led 100 = .ok (.getfield 251, 3) := by decide +kernel
theorem dX10_led_103 : decode cX10_led 103 = .ok (.ireturn, 1) := by decide +kernel
theorem dX10_led_104 : decode cX10_led 104 = .ok (.aload_n 0, 1) := by decide +kernel
theorem dX10_led_105 : decode cX10_led 105 = .ok (.getfield 56, 3) := by decide +kernel
theorem dX10_led_108 : decode cX10_led 108 = .ok (.getfield 232, 3) := by decide +kernel
theorem dX10_led_111 : decode cX10_led 111 = .ok (.getfield 235, 3) := by decide +kernel
theorem dX10_led_114 : decode cX10_led 114 = .ok (.ifCond .eq 16, 3) := by decide +kernel
theorem dX10_led_117 : decode cX10_led 117 = .ok (.aload_n 0, 1) := by decide +kernel
theorem dX10_led_118 : decode cX10_led 118 = .ok (.getfield 56, 3) := by decide +kernel
theorem dX10_led_121 : decode cX10_led 121 = .ok (.getfield 232, 3) := by decide +kernel
theorem dX10_led_124 : decode cX10_led 124 = .ok (.getfield 245, 3) := by decide +kernel
theorem dX10_led_127 : decode cX10_led 127 = .ok (.goto 5, 3) := by decide +kernel
theorem dX10_led_130 : decode cX10_led 130 = .ok (.bipush (-2), 2) := by decide +kernel
theorem dX10_led_132 : decode cX10_led 132 = .ok (.ireturn, 1) := by decide +kernel
theorem dX10_led_133 : decode cX10_led 133 = .ok (.iconst (-1), 1) := by decide +kernel
theorem dX10_led_134 : decode cX10_led 134 = .ok (.ireturn, 1) := by decide +kernel
theorem dX10_image_0 : decode cX10_image 0 = .ok (.aload_n 0, 1) := by decide +kernel
theorem dX10_image_1 : decode cX10_image 1 = .ok (.getfield 56, 3) := by decide +kernel
theorem dX10_image_4 : decode cX10_image 4 = .ok (.invokevirtual 253, 3) := by decide +kernel
theorem dX10_image_7 : decode cX10_image 7 = .ok (.aload_n 0, 1) := by decide +kernel
theorem dX10_image_8 : decode cX10_image 8 = .ok (.getfield 56, 3) := by decide +kernel
theorem dX10_image_11 : decode cX10_image 11 = .ok (.getfield 232, 3) := by decide +kernel
theorem dX10_image_14 : decode cX10_image 14 = .ok (.getfield 133, 3) := by decide +kernel
theorem dX10_image_17 : decode cX10_image 17 = .ok (.ireturn, 1) := by decide +kernel
theorem dX10_back_0 : decode cX10_back 0 = .ok (.aload_n 0, 1) := by decide +kernel
theorem dX10_back_1 : decode cX10_back 1 = .ok (.getfield 56, 3) := by decide +kernel
theorem dX10_back_4 : decode cX10_back 4 = .ok (.getfield 256, 3) := by decide +kernel
theorem dX10_back_7 : decode cX10_back 7 = .ok (.ifCond .ne 6, 3) := by decide +kernel
theorem dX10_back_10 : decode cX10_back 10 = .ok (.bipush (-5), 2) := by decide +kernel
theorem dX10_back_12 : decode cX10_back 12 = .ok (.ireturn, 1) := by decide +kernel
theorem dX10_back_13 : decode cX10_back 13 = .ok (.aload_n 0, 1) := by decide +kernel
theorem dX10_back_14 : decode cX10_back 14 = .ok (.getfield 56, 3) := by decide +kernel
theorem dX10_back_17 : decode cX10_back 17 = .ok (.invokevirtual 259, 3) := by decide +kernel
theorem dX10_back_20 : decode cX10_back 20 = .ok (.aload_n 0, 1) := by decide +kernel
theorem dX10_back_21 : decode cX10_back 21 = .ok (.getfield 56, 3) := by decide +kernel
theorem dX10_back_24 : decode cX10_back 24 = .ok (.getfield 232, 3) := by decide +kernel
theorem dX10_back_27 : decode cX10_back 27 = .ok (.getfield 133, 3) := by decide +kernel
theorem dX10_back_30 : decode cX10_back 30 = .ok (.ireturn, 1) := by decide +kernel
theorem dX10_undo_0 : decode cX10_undo 0 = .ok (.aload_n 0, 1) := by decide +kernel
theorem dX10_undo_1 : decode cX10_undo 1 = .ok (.getfield 19, 3) := by decide +kernel
theorem dX10_undo_4 : decode cX10_undo 4 = .ok (.aload_n 0, 1) := by decide +kernel
theorem dX10_undo_5 : decode cX10_undo 5 = .ok (.getfield 10, 3) := by decide +kernel
theorem dX10_undo_8 : decode cX10_undo 8 = .ok (.invokevirtual 262, 3) := by decide +kernel
theorem dX10_undo_11 : decode cX10_undo 11 = .ok (.ifCond .eq 13, 3) := by decide +kernel
theorem dX10_undo_14 : decode cX10_undo 14 = .ok (.aload_n 0, 1) := by decide +kernel
theorem dX10_undo_15 : decode cX10_undo 15 = .ok (.getfield 19, 3) := by decide +kernel
theorem dX10_undo_18 : decode cX10_undo 18 = .ok (.getfield 266, 3) := by decide +kernel
theorem dX10_undo_21 : decode cX10_undo 21 = .ok (.goto 5, 3) := by decide +kernel
theorem dX10_undo_24 : decode cX10_undo 24 = .ok (.bipush (-5), 2) := by decide +kernel
theorem dX10_undo_26 : decode cX10_undo 26 = .ok (.ireturn, 1) := by decide +kernel
theorem dX10_redo_0 : decode cX10_redo 0 = .ok (.aload_n 0, 1) := by decide +kernel
theorem dX10_redo_1 : decode cX10_redo 1 = .ok (.getfield 19, 3) := by decide +kernel
theorem dX10_redo_4 : decode cX10_redo 4 = .ok (.aload_n 0, 1) := by decide +kernel
theorem dX10_redo_5 : decode cX10_redo 5 = .ok (.getfield 10, 3) := by decide +kernel
theorem dX10_redo_8 : decode cX10_redo 8 = .ok (.invokevirtual 269, 3) := by decide +kernel
theorem dX10_redo_11 : decode cX10_redo 11 = .ok (.ifCond .eq 21, 3) := by decide +kernel
theorem dX10_redo_14 : decode cX10_redo 14 = .ok (.aload_n 0, 1) := by decide +kernel
theorem dX10_redo_15 : decode cX10_redo 15 = .ok (.getfield 19, 3) := by decide +kernel
theorem dX10_redo_18 : decode cX10_redo 18 = .ok (.getfield 272, 3) := by decide +kernel
theorem dX10_redo_21 : decode cX10_redo 21 = .ok (.aload_n 0, 1) := by decide +kernel
theorem dX10_redo_22 : decode cX10_redo 22 = .ok (.getfield 19, 3) := by decide +kernel
theorem dX10_redo_25 : decode cX10_redo 25 = .ok (.getfield 266, 3) := by decide +kernel
theorem dX10_redo_28 : decode cX10_redo 28 = .ok (.isub, 1) := by decide +kernel
theorem dX10_redo_29 : decode cX10_redo 29 = .ok (.goto 5, 3) := by decide +kernel
theorem dX10_redo_32 : decode cX10_redo 32 = .ok (.bipush (-5), 2) := by decide +kernel
theorem dX10_redo_34 : decode cX10_redo 34 = .ok (.ireturn, 1) := by decide +kernel
theorem dX10_body_0 : decode cX10_body 0 = .ok (.iload_n 1, 1) := by decide +kernel
theorem dX10_body_1 : decode cX10_body 1 = .ok (.ifCond .lt 9, 3) := by decide +kernel
theorem dX10_body_4 : decode cX10_body 4 = .ok (.iload_n 1, 1) := by decide +kernel
theorem dX10_body_5 : decode cX10_body 5 = .ok (.bipush 8, 2) := by decide +kernel
theorem dX10_body_7 : decode cX10_body 7 = .ok (.if_icmp .lt 7, 3) := by decide +kernel
theorem dX10_body_10 : decode cX10_body 10 = .ok (.iconst (-1), 1) := by decide +kernel
theorem dX10_body_11 : decode cX10_body 11 = .ok (.goto 11, 3) := by decide +kernel
theorem dX10_body_14 : decode cX10_body 14 = .ok (.aload_n 0, 1) := by decide +kernel
theorem dX10_body_15 : decode cX10_body 15 = .ok (.getfield 63, 3) := by decide +kernel
theorem dX10_body_18 : decode cX10_body 18 = .ok (.iload_n 1, 1) := by decide +kernel
theorem dX10_body_19 : decode cX10_body 19 = .ok (.invokevirtual 275, 3) := by decide +kernel
theorem dX10_body_22 : decode cX10_body 22 = .ok (.ireturn, 1) := by decide +kernel
theorem dX10_act_0 : decode cX10_act 0 = .ok (.aload_n 0, 1) := by decide +kernel
theorem dX10_act_1 : decode cX10_act 1 = .ok (.getfield 63, 3) := by decide +kernel
theorem dX10_act_4 : decode cX10_act 4 = .ok (.iconst 0, 1) := by decide +kernel
theorem dX10_act_5 : decode cX10_act 5 = .ok (.putfield 277, 3) := by decide +kernel
theorem dX10_act_8 : decode cX10_act 8 = .ok (.aload_n 0, 1) := by decide +kernel
theorem dX10_act_9 : decode cX10_act 9 = .ok (.getfield 63, 3) := by decide +kernel
theorem dX10_act_12 : decode cX10_act 12 = .ok (.iload_n 1, 1) := by decide +kernel
theorem dX10_act_13 : decode cX10_act 13 = .ok (.invokevirtual 280, 3) := by decide +kernel
theorem dX10_act_16 : decode cX10_act 16 = .ok (.ifCond .eq 12, 3) := by decide +kernel
theorem dX10_act_19 : decode cX10_act 19 = .ok (.iload_n 2, 1) := by decide +kernel
theorem dX10_act_20 : decode cX10_act 20 = .ok (.ifCond .lt 8, 3) := by decide +kernel
theorem dX10_act_23 : decode cX10_act 23 = .ok (.iload_n 2, 1) := by decide +kernel
theorem dX10_act_24 : decode cX10_act 24 = .ok (.iconst 4, 1) := by decide +kernel
theorem dX10_act_25 : decode cX10_act 25 = .ok (.if_icmp .lt 5, 3) := by decide +kernel
theorem dX10_act_28 : decode cX10_act 28 = .ok (.iconst 0, 1) := by decide +kernel
theorem dX10_act_29 : decode cX10_act 29 = .ok (.ireturn, 1) := by decide +kernel
theorem dX10_act_30 : decode cX10_act 30 = .ok (.aload_n 0, 1) := by decide +kernel
theorem dX10_act_31 : decode cX10_act 31 = .ok (.getfield 63, 3) := by decide +kernel
theorem dX10_act_34 : decode cX10_act 34 = .ok (.iload_n 1, 1) := by decide +kernel
theorem dX10_act_35 : decode cX10_act 35 = .ok (.iload_n 2, 1) := by decide +kernel
theorem dX10_act_36 : decode cX10_act 36 = .ok (.iload_n 3, 1) := by decide +kernel
theorem dX10_act_37 : decode cX10_act 37 = .ok (.invokevirtual 282, 3) := by decide +kernel
theorem dX10_act_40 : decode cX10_act 40 = .ok (.ireturn, 1) := by decide +kernel
theorem dX10_trace_0 : decode cX10_trace 0 = .ok (.iload_n 1, 1) := by decide +kernel
theorem dX10_trace_1 : decode cX10_trace 1 = .ok (.ifCond .lt 20, 3) := by decide +kernel
theorem dX10_trace_4 : decode cX10_trace 4 = .ok (.iload_n 1, 1) := by decide +kernel
theorem dX10_trace_5 : decode cX10_trace 5 = .ok (.aload_n 0, 1) := by decide +kernel
theorem dX10_trace_6 : decode cX10_trace 6 = .ok (.getfield 63, 3) := by decide +kernel
theorem dX10_trace_9 : decode cX10_trace 9 = .ok (.getfield 277, 3) := by decide +kernel
theorem dX10_trace_12 : decode cX10_trace 12 = .ok (.if_icmp .ge 9, 3) := by decide +kernel
theorem dX10_trace_15 : decode cX10_trace 15 = .ok (.iload_n 1, 1) := by decide +kernel
theorem dX10_trace_16 : decode cX10_trace 16 = .ok (.bipush 24, 2) := by decide +kernel
theorem dX10_trace_18 : decode cX10_trace 18 = .ok (.if_icmp .lt 7, 3) := by decide +kernel
theorem dX10_trace_21 : decode cX10_trace 21 = .ok (.iconst (-1), 1) := by decide +kernel
theorem dX10_trace_22 : decode cX10_trace 22 = .ok (.goto 12, 3) := by decide +kernel
theorem dX10_trace_25 : decode cX10_trace 25 = .ok (.aload_n 0, 1) := by decide +kernel
theorem dX10_trace_26 : decode cX10_trace 26 = .ok (.getfield 63, 3) := by decide +kernel
theorem dX10_trace_29 : decode cX10_trace 29 = .ok (.getfield 286, 3) := by decide +kernel
theorem dX10_trace_32 : decode cX10_trace 32 = .ok (.iload_n 1, 1) := by decide +kernel
theorem dX10_trace_33 : decode cX10_trace 33 = .ok (.iaload, 1) := by decide +kernel
theorem dX10_trace_34 : decode cX10_trace 34 = .ok (.ireturn, 1) := by decide +kernel
theorem dX10_keep_0 : decode cX10_keep 0 = .ok (.aload_n 0, 1) := by decide +kernel
theorem dX10_keep_1 : decode cX10_keep 1 = .ok (.iload_n 1, 1) := by decide +kernel
theorem dX10_keep_2 : decode cX10_keep 2 = .ok (.invokevirtual 82, 3) := by decide +kernel
theorem dX10_keep_5 : decode cX10_keep 5 = .ok (.astore_n 3, 1) := by decide +kernel
theorem dX10_keep_6 : decode cX10_keep 6 = .ok (.aload_n 3, 1) := by decide +kernel
theorem dX10_keep_7 : decode cX10_keep 7 = .ok (.ifnull 19, 3) := by decide +kernel
theorem dX10_keep_10 : decode cX10_keep 10 = .ok (.iload_n 2, 1) := by decide +kernel
theorem dX10_keep_11 : decode cX10_keep 11 = .ok (.iconst (-1), 1) := by decide +kernel
theorem dX10_keep_12 : decode cX10_keep 12 = .ok (.if_icmp .eq 16, 3) := by decide +kernel
theorem dX10_keep_15 : decode cX10_keep 15 = .ok (.aload_n 0, 1) := by decide +kernel
theorem dX10_keep_16 : decode cX10_keep 16 = .ok (.getfield 63, 3) := by decide +kernel
theorem dX10_keep_19 : decode cX10_keep 19 = .ok (.iload_n 2, 1) := by decide +kernel
theorem dX10_keep_20 : decode cX10_keep 20 = .ok (.invokevirtual 280, 3) := by decide +kernel
theorem dX10_keep_23 : decode cX10_keep 23 = .ok (.ifCond .ne 5, 3) := by decide +kernel
theorem dX10_keep_26 : decode cX10_keep 26 = .ok (.iconst (-1), 1) := by decide +kernel
theorem dX10_keep_27 : decode cX10_keep 27 = .ok (.ireturn, 1) := by decide +kernel
theorem dX10_keep_28 : decode cX10_keep 28 = .ok (.aload_n 3, 1) := by decide +kernel
theorem dX10_keep_29 : decode cX10_keep 29 = .ok (.iload_n 2, 1) := by decide +kernel
theorem dX10_keep_30 : decode cX10_keep 30 = .ok (.iconst (-1), 1) := by decide +kernel
theorem dX10_keep_31 : decode cX10_keep 31 = .ok (.if_icmp .ne 7, 3) := by decide +kernel
theorem dX10_keep_34 : decode cX10_keep 34 = .ok (.iconst 0, 1) := by decide +kernel
theorem dX10_keep_35 : decode cX10_keep 35 = .ok (.goto 4, 3) := by decide +kernel
theorem dX10_keep_38 : decode cX10_keep 38 = .ok (.iconst 1, 1) := by decide +kernel
theorem dX10_keep_39 : decode cX10_keep 39 = .ok (.putfield 86, 3) := by decide +kernel
theorem dX10_keep_42 : decode cX10_keep 42 = .ok (.aload_n 3, 1) := by decide +kernel
theorem dX10_keep_43 : decode cX10_keep 43 = .ok (.iload_n 2, 1) := by decide +kernel
theorem dX10_keep_44 : decode cX10_keep 44 = .ok (.putfield 289, 3) := by decide +kernel
theorem dX10_keep_47 : decode cX10_keep 47 = .ok (.iconst 1, 1) := by decide +kernel
theorem dX10_keep_48 : decode cX10_keep 48 = .ok (.ireturn, 1) := by decide +kernel
theorem dX10_row_0 : decode cX10_row 0 = .ok (.aload_n 0, 1) := by decide +kernel
theorem dX10_row_1 : decode cX10_row 1 = .ok (.iload_n 1, 1) := by decide +kernel
theorem dX10_row_2 : decode cX10_row 2 = .ok (.invokevirtual 82, 3) := by decide +kernel
theorem dX10_row_5 : decode cX10_row 5 = .ok (.astore 4, 2) := by decide +kernel
theorem dX10_row_7 : decode cX10_row 7 = .ok (.aload 4, 2) := by decide +kernel
theorem dX10_row_9 : decode cX10_row 9 = .ok (.ifnull 18, 3) := by decide +kernel
theorem dX10_row_12 : decode cX10_row 12 = .ok (.iload_n 2, 1) := by decide +kernel
theorem dX10_row_13 : decode cX10_row 13 = .ok (.ifCond .lt 14, 3) := by decide +kernel
theorem dX10_row_16 : decode cX10_row 16 = .ok (.iload_n 2, 1) := by decide +kernel
theorem dX10_row_17 : decode cX10_row 17 = .ok (.iconst 5, 1) := by decide +kernel
theorem dX10_row_18 : decode cX10_row 18 = .ok (.if_icmp .ge 9, 3) := by decide +kernel
theorem dX10_row_21 : decode cX10_row 21 = .ok (.iload_n 3, 1) := by decide +kernel
theorem dX10_row_22 : decode cX10_row 22 = .ok (.bipush 60, 2) := by decide +kernel
theorem dX10_row_24 : decode cX10_row 24 = .ok (.if_icmp .le 5, 3) := by decide +kernel
theorem dX10_row_27 : decode cX10_row 27 = .ok (.iconst (-1), 1) := by decide +kernel
theorem dX10_row_28 : decode cX10_row 28 = .ok (.ireturn, 1) := by decide +kernel
theorem dX10_row_29 : decode cX10_row 29 = .ok (.iload_n 3, 1) := by decide +kernel
theorem dX10_row_30 : decode cX10_row 30 = .ok (.ifCond .ge 6, 3) := by decide +kernel
theorem dX10_row_33 : decode cX10_row 33 = .ok (.bipush (-14), 2) := by decide +kernel
theorem dX10_row_35 : decode cX10_row 35 = .ok (.ireturn, 1) := by decide +kernel
theorem dX10_row_36 : decode cX10_row 36 = .ok (.aload 4, 2) := by decide +kernel
theorem dX10_row_38 : decode cX10_row 38 = .ok (.iload_n 2, 1) := by decide +kernel
theorem dX10_row_39 : decode cX10_row 39 = .ok (.iload_n 3, 1) := by decide +kernel
theorem dX10_row_40 : decode cX10_row 40 = .ok (.invokevirtual 292, 3) := by decide +kernel
theorem dX10_row_43 : decode cX10_row 43 = .ok (.iconst 1, 1) := by decide +kernel
theorem dX10_row_44 : decode cX10_row 44 = .ok (.ireturn, 1) := by decide +kernel
theorem dX10_put_0 : decode cX10_put 0 = .ok (.aload_n 0, 1) := by decide +kernel
theorem dX10_put_1 : decode cX10_put 1 = .ok (.iload_n 1, 1) := by decide +kernel
theorem dX10_put_2 : decode cX10_put 2 = .ok (.invokevirtual 82, 3) := by decide +kernel
theorem dX10_put_5 : decode cX10_put 5 = .ok (.astore 5, 2) := by decide +kernel
theorem dX10_put_7 : decode cX10_put 7 = .ok (.aload 5, 2) := by decide +kernel
theorem dX10_put_9 : decode cX10_put 9 = .ok (.ifnonnull 5, 3) := by decide +kernel
theorem dX10_put_12 : decode cX10_put 12 = .ok (.iconst (-1), 1) := by decide +kernel
theorem dX10_put_13 : decode cX10_put 13 = .ok (.ireturn, 1) := by decide +kernel
theorem dX10_put_14 : decode cX10_put 14 = .ok (.aload 5, 2) := by decide +kernel
theorem dX10_put_16 : decode cX10_put 16 = .ok (.iload_n 2, 1) := by decide +kernel
theorem dX10_put_17 : decode cX10_put 17 = .ok (.invokevirtual 295, 3) := by decide +kernel
theorem dX10_put_20 : decode cX10_put 20 = .ok (.istore 6, 2) := by decide +kernel
theorem dX10_put_22 : decode cX10_put 22 = .ok (.iload 6, 2) := by decide +kernel
theorem dX10_put_24 : decode cX10_put 24 = .ok (.ifCond .eq 6, 3) := by decide +kernel
theorem dX10_put_27 : decode cX10_put 27 = .ok (.iload 6, 2) := by decide +kernel
theorem dX10_put_29 : decode cX10_put 29 = .ok (.ireturn, 1) := by decide +kernel
theorem dX10_put_30 : decode cX10_put 30 = .ok (.aload 5, 2) := by decide +kernel
theorem dX10_put_32 : decode cX10_put 32 = .ok (.iload_n 2, 1) := by decide +kernel
theorem dX10_put_33 : decode cX10_put 33 = .ok (.lload_n 3, 1) := by decide +kernel
theorem dX10_put_34 : decode cX10_put 34 = .ok (.invokevirtual 298, 3) := by decide +kernel
theorem dX10_put_37 : decode cX10_put 37 = .ok (.iconst 1, 1) := by decide +kernel
theorem dX10_put_38 : decode cX10_put 38 = .ok (.ireturn, 1) := by decide +kernel
theorem dX10_element_0 : decode cX10_element 0 = .ok (.aload_n 0, 1) := by decide +kernel
theorem dX10_element_1 : decode cX10_element 1 = .ok (.iload_n 1, 1) := by decide +kernel
theorem dX10_element_2 : decode cX10_element 2 = .ok (.invokevirtual 82, 3) := by decide +kernel
theorem dX10_element_5 : decode cX10_element 5 = .ok (.astore_n 3, 1) := by decide +kernel
theorem dX10_element_6 : decode cX10_element 6 = .ok (.aload_n 3, 1) := by decide +kernel
theorem dX10_element_7 : decode cX10_element 7 = .ok (.ifnull 11, 3) := by decide +kernel
theorem dX10_element_10 : decode cX10_element 10 = .ok (.aload_n 3, 1) := by decide +kernel
theorem dX10_element_11 : decode cX10_element 11 = .ok (.iload_n 2, 1) := by decide +kernel
theorem dX10_element_12 : decode cX10_element 12 = .ok (.invokevirtual 295, 3) := by decide +kernel
theorem dX10_element_15 : decode cX10_element 15 = .ok (.ifCond .eq 7, 3) := by decide +kernel
theorem dX10_element_18 : decode cX10_element 18 = .ok (.ldc2_w 160, 3) := by decide +kernel
theorem dX10_element_21 : decode cX10_element 21 = .ok (.lreturn, 1) := by decide +kernel
theorem dX10_element_22 : decode cX10_element 22 = .ok (.aload_n 3, 1) := by decide +kernel
theorem dX10_element_23 : decode cX10_element 23 = .ok (.iload_n 2, 1) := by decide +kernel
theorem dX10_element_24 : decode cX10_element 24 = .ok (.invokevirtual 302, 3) := by decide +kernel
theorem dX10_element_27 : decode cX10_element 27 = .ok (.lreturn, 1) := by decide +kernel
theorem dX10_shift_0 : decode cX10_shift 0 = .ok (.aload_n 0, 1) := by decide +kernel
theorem dX10_shift_1 : decode cX10_shift 1 = .ok (.iload_n 1, 1) := by decide +kernel
theorem dX10_shift_2 : decode cX10_shift 2 = .ok (.invokevirtual 82, 3) := by decide +kernel
theorem dX10_shift_5 : decode cX10_shift 5 = .ok (.astore 6, 2) := by decide +kernel
theorem dX10_shift_7 : decode cX10_shift 7 = .ok (.aload_n 0, 1) := by decide +kernel
theorem dX10_shift_8 : decode cX10_shift 8 = .ok (.iload_n 3, 1) := by decide +kernel
theorem dX10_shift_9 : decode cX10_shift 9 = .ok (.invokevirtual 82, 3) := by decide +kernel
theorem dX10_shift_12 : decode cX10_shift 12 = .ok (.astore 7, 2) := by decide +kernel
theorem dX10_shift_14 : decode cX10_shift 14 = .ok (.aload 6, 2) := by decide +kernel
theorem dX10_shift_16 : decode cX10_shift 16 = .ok (.ifnull 8, 3) := by decide +kernel
theorem dX10_shift_19 : decode cX10_shift 19 = .ok (.aload 7, 2) := by decide +kernel
theorem dX10_shift_21 : decode cX10_shift 21 = .ok (.ifnonnull 5, 3) := by decide +kernel
theorem dX10_shift_24 : decode cX10_shift 24 = .ok (.iconst (-1), 1) := by decide +kernel
theorem dX10_shift_25 : decode cX10_shift 25 = .ok (.ireturn, 1) := by decide +kernel
theorem dX10_shift_26 : decode cX10_shift 26 = .ok (.aload 6, 2) := by decide +kernel
theorem dX10_shift_28 : decode cX10_shift 28 = .ok (.getfield 86, 3) := by decide +kernel
theorem dX10_shift_31 : decode cX10_shift 31 = .ok (.ifCond .eq 11, 3) := by decide +kernel
theorem dX10_shift_34 : decode cX10_shift 34 = .ok (.aload 7, 2) := by decide +kernel
theorem dX10_shift_36 : decode cX10_shift 36 = .ok (.getfield 86, 3) := by decide +kernel
theorem dX10_shift_39 : decode cX10_shift 39 = .ok (.ifCond .ne 6, 3) := by decide +kernel
theorem dX10_shift_42 : decode cX10_shift 42 = .ok (.bipush (-11), 2) := by decide +kernel
theorem dX10_shift_44 : decode cX10_shift 44 = .ok (.ireturn, 1) := by decide +kernel
theorem dX10_shift_45 : decode cX10_shift 45 = .ok (.aload 6, 2) := by decide +kernel
theorem dX10_shift_47 : decode cX10_shift 47 = .ok (.getfield 86, 3) := by decide +kernel
theorem dX10_shift_50 : decode cX10_shift 50 = .ok (.iconst 2, 1) := by decide +kernel
theorem dX10_shift_51 : decode cX10_shift 51 = .ok (.if_icmp .ne 25, 3) := by decide +kernel
theorem dX10_shift_54 : decode cX10_shift 54 = .ok (.aload 7, 2) := by decide +kernel
theorem dX10_shift_56 : decode cX10_shift 56 = .ok (.getfield 86, 3) := by decide +kernel
theorem dX10_shift_59 : decode cX10_shift 59 = .ok (.iconst 2, 1) := by decide +kernel
theorem dX10_shift_60 : decode cX10_shift 60 = .ok (.if_icmp .ne 16, 3) := by decide +kernel
theorem dX10_shift_63 : decode cX10_shift 63 = .ok (.aload 6, 2) := by decide +kernel
theorem dX10_shift_65 : decode cX10_shift 65 = .ok (.getfield 305, 3) := by decide +kernel
theorem dX10_shift_68 : decode cX10_shift 68 = .ok (.aload 7, 2) := by decide +kernel
theorem dX10_shift_70 : decode cX10_shift 70 = .ok (.getfield 305, 3) := by decide +kernel
theorem dX10_shift_73 : decode cX10_shift 73 = .ok (.if_icmp .eq 6, 3) := by decide +kernel
theorem dX10_shift_76 : decode cX10_shift 76 = .ok (.bipush (-12), 2) := by decide +kernel
theorem dX10_shift_78 : decode cX10_shift 78 = .ok (.ireturn, 1) := by decide +kernel
theorem dX10_shift_79 : decode cX10_shift 79 = .ok (.aload 6, 2) := by decide +kernel
theorem dX10_shift_81 : decode cX10_shift 81 = .ok (.iload_n 2, 1) := by decide +kernel
theorem dX10_shift_82 : decode cX10_shift 82 = .ok (.iload 5, 2) := by decide +kernel
theorem dX10_shift_84 : decode cX10_shift 84 = .ok (.invokevirtual 308, 3) := by decide +kernel
theorem dX10_shift_87 : decode cX10_shift 87 = .ok (.ifCond .eq 15, 3) := by decide +kernel
theorem dX10_shift_90 : decode cX10_shift 90 = .ok (.aload 7, 2) := by decide +kernel
theorem dX10_shift_92 : decode cX10_shift 92 = .ok (.iload 4, 2) := by decide +kernel
theorem dX10_shift_94 : decode cX10_shift 94 = .ok (.iload 5, 2) := by decide +kernel
theorem dX10_shift_96 : decode cX10_shift 96 = .ok (.invokevirtual 308, 3) := by decide +kernel
theorem dX10_shift_99 : decode cX10_shift 99 = .ok (.ifCond .ne 6, 3) := by decide +kernel
theorem dX10_shift_102 : decode cX10_shift 102 = .ok (.bipush (-13), 2) := by decide +kernel
theorem dX10_shift_104 : decode cX10_shift 104 = .ok (.ireturn, 1) := by decide +kernel
theorem dX10_shift_105 : decode cX10_shift 105 = .ok (.aload 6, 2) := by decide +kernel
theorem dX10_shift_107 : decode cX10_shift 107 = .ok (.getfield 311, 3) := by decide +kernel
theorem dX10_shift_110 : decode cX10_shift 110 = .ok (.iload_n 2, 1) := by decide +kernel
theorem dX10_shift_111 : decode cX10_shift 111 = .ok (.aload 7, 2) := by decide +kernel
theorem dX10_shift_113 : decode cX10_shift 113 = .ok (.getfield 311, 3) := by decide +kernel
theorem dX10_shift_116 : decode cX10_shift 116 = .ok (.iload 4, 2) := by decide +kernel
theorem dX10_shift_118 : decode cX10_shift 118 = .ok (.iload 5, 2) := by decide +kernel
theorem dX10_shift_120 : decode cX10_shift 120 = .ok (.invokestatic 315, 3) := by decide +kernel
theorem dX10_shift_123 : decode cX10_shift 123 = .ok (.iload 5, 2) := by decide +kernel
theorem dX10_shift_125 : decode cX10_shift 125 = .ok (.ireturn, 1) := by decide +kernel
theorem dX10_taken_0 : decode cX10_taken 0 = .ok (.aload_n 0, 1) := by decide +kernel
theorem dX10_taken_1 : decode cX10_taken 1 = .ok (.iload_n 1, 1) := by decide +kernel
theorem dX10_taken_2 : decode cX10_taken 2 = .ok (.invokevirtual 82, 3) := by decide +kernel
theorem dX10_taken_5 : decode cX10_taken 5 = .ok (.astore_n 3, 1) := by decide +kernel
theorem dX10_taken_6 : decode cX10_taken 6 = .ok (.aload_n 3, 1) := by decide +kernel
theorem dX10_taken_7 : decode cX10_taken 7 = .ok (.ifnull 13, 3) := by decide +kernel
theorem dX10_taken_10 : decode cX10_taken 10 = .ok (.iload_n 2, 1) := by decide +kernel
theorem dX10_taken_11 : decode cX10_taken 11 = .ok (.ifCond .lt 9, 3) := by decide +kernel
theorem dX10_taken_14 : decode cX10_taken 14 = .ok (.iload_n 2, 1) := by decide +kernel
theorem dX10_taken_15 : decode cX10_taken 15 = .ok (.bipush 8, 2) := by decide +kernel
theorem dX10_taken_17 : decode cX10_taken 17 = .ok (.if_icmp .lt 5, 3) := by decide +kernel
theorem dX10_taken_20 : decode cX10_taken 20 = .ok (.iconst (-1), 1) := by decide +kernel
theorem dX10_taken_21 : decode cX10_taken 21 = .ok (.ireturn, 1) := by decide +kernel
theorem dX10_taken_22 : decode cX10_taken 22 = .ok (.aload_n 3, 1) := by decide +kernel
theorem dX10_taken_23 : decode cX10_taken 23 = .ok (.getfield 86, 3) := by decide +kernel
theorem dX10_taken_26 : decode cX10_taken 26 = .ok (.ifCond .ne 6, 3) := by decide +kernel
theorem dX10_taken_29 : decode cX10_taken 29 = .ok (.bipush (-11), 2) := by decide +kernel
theorem dX10_taken_31 : decode cX10_taken 31 = .ok (.ireturn, 1) := by decide +kernel
theorem dX10_taken_32 : decode cX10_taken 32 = .ok (.aload_n 3, 1) := by decide +kernel
theorem dX10_taken_33 : decode cX10_taken 33 = .ok (.getfield 86, 3) := by decide +kernel
theorem dX10_taken_36 : decode cX10_taken 36 = .ok (.iconst 1, 1) := by decide +kernel
theorem dX10_taken_37 : decode cX10_taken 37 = .ok (.if_icmp .eq 6, 3) := by decide +kernel
theorem dX10_taken_40 : decode cX10_taken 40 = .ok (.bipush (-12), 2) := by decide +kernel
theorem dX10_taken_42 : decode cX10_taken 42 = .ok (.ireturn, 1) := by decide +kernel
theorem dX10_taken_43 : decode cX10_taken 43 = .ok (.aload_n 0, 1) := by decide +kernel
theorem dX10_taken_44 : decode cX10_taken 44 = .ok (.getfield 63, 3) := by decide +kernel
theorem dX10_taken_47 : decode cX10_taken 47 = .ok (.aload_n 3, 1) := by decide +kernel
theorem dX10_taken_48 : decode cX10_taken 48 = .ok (.getfield 289, 3) := by decide +kernel
theorem dX10_taken_51 : decode cX10_taken 51 = .ok (.invokevirtual 321, 3) := by decide +kernel
theorem dX10_taken_54 : decode cX10_taken 54 = .ok (.istore 4, 2) := by decide +kernel
theorem dX10_taken_56 : decode cX10_taken 56 = .ok (.iload 4, 2) := by decide +kernel
theorem dX10_taken_58 : decode cX10_taken 58 = .ok (.iload_n 2, 1) := by decide +kernel
theorem dX10_taken_59 : decode cX10_taken 59 = .ok (.invokestatic 324, 3) := by decide +kernel
theorem dX10_taken_62 : decode cX10_taken 62 = .ok (.ifCond .eq 8, 3) := by decide +kernel
theorem dX10_taken_65 : decode cX10_taken 65 = .ok (.iload 4, 2) := by decide +kernel
theorem dX10_taken_67 : decode cX10_taken 67 = .ok (.goto 5, 3) := by decide +kernel
theorem dX10_taken_70 : decode cX10_taken 70 = .ok (.bipush (-12), 2) := by decide +kernel
theorem dX10_taken_72 : decode cX10_taken 72 = .ok (.ireturn, 1) := by decide +kernel
theorem dX10_count_0 : decode cX10_count 0 = .ok (.iload_n 1, 1) := by decide +kernel
theorem dX10_count_1 : decode cX10_count 1 = .ok (.tableswitch 75 0 4 #[35, 43, 51, 59, 67], 35) := by decide +kernel
theorem dX10_count_36 : decode cX10_count 36 = .ok (.aload_n 0, 1) := by decide +kernel
theorem dX10_count_37 : decode cX10_count 37 = .ok (.getfield 10, 3) := by decide +kernel
theorem dX10_count_40 : decode cX10_count 40 = .ok (.getfield 177, 3) := by decide +kernel
theorem dX10_count_43 : decode cX10_count 43 = .ok (.ireturn, 1) := by decide +kernel
theorem dX10_count_44 : decode cX10_count 44 = .ok (.aload_n 0, 1) := by decide +kernel
theorem dX10_count_45 : decode cX10_count 45 = .ok (.getfield 26, 3) := by decide +kernel
theorem dX10_count_48 : decode cX10_count 48 = .ok (.getfield 327, 3) := by decide +kernel
theorem dX10_count_51 : decode cX10_count 51 = .ok (.ireturn, 1) := by decide +kernel
theorem dX10_count_52 : decode cX10_count 52 = .ok (.aload_n 0, 1) := by decide +kernel
theorem dX10_count_53 : decode cX10_count 53 = .ok (.getfield 19, 3) := by decide +kernel
theorem dX10_count_56 : decode cX10_count 56 = .ok (.getfield 266, 3) := by decide +kernel
theorem dX10_count_59 : decode cX10_count 59 = .ok (.ireturn, 1) := by decide +kernel
theorem dX10_count_60 : decode cX10_count 60 = .ok (.aload_n 0, 1) := by decide +kernel
theorem dX10_count_61 : decode cX10_count 61 = .ok (.getfield 63, 3) := by decide +kernel
theorem dX10_count_64 : decode cX10_count 64 = .ok (.getfield 330, 3) := by decide +kernel
theorem dX10_count_67 : decode cX10_count 67 = .ok (.ireturn, 1) := by decide +kernel
theorem dX10_count_68 : decode cX10_count 68 = .ok (.aload_n 0, 1) := by decide +kernel
theorem dX10_count_69 : decode cX10_count 69 = .ok (.getfield 63, 3) := by decide +kernel
theorem dX10_count_72 : decode cX10_count 72 = .ok (.getfield 277, 3) := by decide +kernel
theorem dX10_count_75 : decode cX10_count 75 = .ok (.ireturn, 1) := by decide +kernel
theorem dX10_count_76 : decode cX10_count 76 = .ok (.iconst (-1), 1) := by decide +kernel
theorem dX10_count_77 : decode cX10_count 77 = .ok (.ireturn, 1) := by decide +kernel
theorem dX10_shelfAt_0 : decode cX10_shelfAt 0 = .ok (.iload_n 1, 1) := by decide +kernel
theorem dX10_shelfAt_1 : decode cX10_shelfAt 1 = .ok (.ifCond .lt 12, 3) := by decide +kernel
theorem dX10_shelfAt_4 : decode cX10_shelfAt 4 = .ok (.iload_n 1, 1) := by decide +kernel
theorem dX10_shelfAt_5 : decode cX10_shelfAt 5 = .ok (.aload_n 0, 1) := by decide +kernel
theorem dX10_shelfAt_6 : decode cX10_shelfAt 6 = .ok (.getfield 69, 3) := by decide +kernel
theorem dX10_shelfAt_9 : decode cX10_shelfAt 9 = .ok (.arraylength, 1) := by decide +kernel
theorem dX10_shelfAt_10 : decode cX10_shelfAt 10 = .ok (.if_icmp .lt 7, 3) := by decide +kernel
theorem dX10_shelfAt_13 : decode cX10_shelfAt 13 = .ok (.aconst_null, 1) := by decide +kernel
theorem dX10_shelfAt_14 : decode cX10_shelfAt 14 = .ok (.goto 9, 3) := by decide +kernel
theorem dX10_shelfAt_17 : decode cX10_shelfAt 17 = .ok (.aload_n 0, 1) := by decide +kernel
theorem dX10_shelfAt_18 : decode cX10_shelfAt 18 = .ok (.getfield 69, 3) := by decide +kernel
theorem dX10_shelfAt_21 : decode cX10_shelfAt 21 = .ok (.iload_n 1, 1) := by decide +kernel
theorem dX10_shelfAt_22 : decode cX10_shelfAt 22 = .ok (.aaload, 1) := by decide +kernel
theorem dX10_shelfAt_23 : decode cX10_shelfAt 23 = .ok (.areturn, 1) := by decide +kernel
theorem dX10_thingCame_0 : decode cX10_thingCame 0 = .ok (.aload_n 1, 1) := by decide +kernel
theorem dX10_thingCame_1 : decode cX10_thingCame 1 = .ok (.iload_n 2, 1) := by decide +kernel
theorem dX10_thingCame_2 : decode cX10_thingCame 2 = .ok (.iconst 4, 1) := by decide +kernel
theorem dX10_thingCame_3 : decode cX10_thingCame 3 = .ok (.invokevirtual 308, 3) := by decide +kernel
theorem dX10_thingCame_6 : decode cX10_thingCame 6 = .ok (.ifCond .ne 5, 3) := by decide +kernel
theorem dX10_thingCame_9 : decode cX10_thingCame 9 = .ok (.iconst 0, 1) := by decide +kernel
theorem dX10_thingCame_10 : decode cX10_thingCame 10 = .ok (.ireturn, 1) := by decide +kernel
theorem dX10_thingCame_11 : decode cX10_thingCame 11 = .ok (.aload_n 1, 1) := by decide +kernel
theorem dX10_thingCame_12 : decode cX10_thingCame 12 = .ok (.iload_n 2, 1) := by decide +kernel
theorem dX10_thingCame_13 : decode cX10_thingCame 13 = .ok (.invokevirtual 302, 3) := by decide +kernel
theorem dX10_thingCame_16 : decode cX10_thingCame 16 = .ok (.l2i, 1) := by decide +kernel
theorem dX10_thingCame_17 : decode cX10_thingCame 17 = .ok (.istore_n 3, 1) := by decide +kernel
theorem dX10_thingCame_18 : decode cX10_thingCame 18 = .ok (.aload_n 1, 1) := by decide +kernel
theorem dX10_thingCame_19 : decode cX10_thingCame 19 = .ok (.iload_n 2, 1) := by decide +kernel
theorem dX10_thingCame_20 : decode cX10_thingCame 20 = .ok (.iconst 1, 1) := by decide +kernel
theorem dX10_thingCame_21 : decode cX10_thingCame 21 = .ok (.iadd, 1) := by decide +kernel
theorem dX10_thingCame_22 : decode cX10_thingCame 22 = .ok (.invokevirtual 302, 3) := by decide +kernel
theorem dX10_thingCame_25 : decode cX10_thingCame 25 = .ok (.l2i, 1) := by decide +kernel
theorem dX10_thingCame_26 : decode cX10_thingCame 26 = .ok (.istore 4, 2) := by decide +kernel
theorem dX10_thingCame_28 : decode cX10_thingCame 28 = .ok (.aload_n 1, 1) := by decide +kernel
theorem dX10_thingCame_29 : decode cX10_thingCame 29 = .ok (.iload_n 2, 1) := by decide +kernel
theorem dX10_thingCame_30 : decode cX10_thingCame 30 = .ok (.iconst 2, 1) := by decide +kernel
theorem dX10_thingCame_31 : decode cX10_thingCame 31 = .ok (.iadd, 1) := by decide +kernel
theorem dX10_thingCame_32 : decode cX10_thingCame 32 = .ok (.invokevirtual 302, 3) := by decide +kernel
theorem dX10_thingCame_35 : decode cX10_thingCame 35 = .ok (.l2i, 1) := by decide +kernel
theorem dX10_thingCame_36 : decode cX10_thingCame 36 = .ok (.istore 5, 2) := by decide +kernel
theorem dX10_thingCame_38 : decode cX10_thingCame 38 = .ok (.aload_n 1, 1) := by decide +kernel
theorem dX10_thingCame_39 : decode cX10_thingCame 39 = .ok (.iload_n 2, 1) := by decide +kernel
theorem dX10_thingCame_40 : decode cX10_thingCame 40 = .ok (.iconst 3, 1) := by decide +kernel
theorem dX10_thingCame_41 : decode cX10_thingCame 41 = .ok (.iadd, 1) := by decide +kernel
theorem dX10_thingCame_42 : decode cX10_thingCame 42 = .ok (.invokevirtual 302, 3) := by decide +kernel
theorem dX10_thingCame_45 : decode cX10_thingCame 45 = .ok (.l2i, 1) := by decide +kernel
theorem dX10_thingCame_46 : decode cX10_thingCame 46 = .ok (.istore 6, 2) := by decide +kernel
theorem dX10_thingCame_48 : decode cX10_thingCame 48 = .ok (.iconst 0, 1) := by decide +kernel
theorem dX10_thingCame_49 : decode cX10_thingCame 49 = .ok (.iload_n 3, 1) := by decide +kernel
