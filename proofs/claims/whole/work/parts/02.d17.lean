theorem dX11_stopAt_69 : decode cX11_stopAt 69 = .ok (.dup, 1) := by decide +kernel
theorem dX11_stopAt_70 : decode cX11_stopAt 70 = .ok (.getfield 246, 3) := by decide +kernel
theorem dX11_stopAt_73 : decode cX11_stopAt 73 = .ok (.iconst 2, 1) := by decide +kernel
theorem dX11_stopAt_74 : decode cX11_stopAt 74 = .ok (.aload_n 0, 1) := by decide +kernel
theorem dX11_stopAt_75 : decode cX11_stopAt 75 = .ok (.iload_n 1, 1) := by decide +kernel
theorem dX11_stopAt_76 : decode cX11_stopAt 76 = .ok (.invokevirtual 274, 3) := by decide +kernel
theorem dX11_stopAt_79 : decode cX11_stopAt 79 = .ok (.imul, 1) := by decide +kernel
theorem dX11_stopAt_80 : decode cX11_stopAt 80 = .ok (.iadd, 1) := by decide +kernel
theorem dX11_stopAt_81 : decode cX11_stopAt 81 = .ok (.putfield 246, 3) := by decide +kernel
theorem dX11_stopAt_84 : decode cX11_stopAt 84 = .ok (.aload_n 0, 1) := by decide +kernel
theorem dX11_stopAt_85 : decode cX11_stopAt 85 = .ok (.iload_n 2, 1) := by decide +kernel
theorem dX11_stopAt_86 : decode cX11_stopAt 86 = .ok (.iload_n 1, 1) := by decide +kernel
theorem dX11_stopAt_87 : decode cX11_stopAt 87 = .ok (.invokevirtual 268, 3) := by decide +kernel
theorem dX11_stopAt_90 : decode cX11_stopAt 90 = .ok (.return_, 1) := by decide +kernel
theorem dX11_goDrive_0 : decode cX11_goDrive 0 = .ok (.aload_n 0, 1) := by decide +kernel
theorem dX11_goDrive_1 : decode cX11_goDrive 1 = .ok (.iload_n 1, 1) := by decide +kernel
theorem dX11_goDrive_2 : decode cX11_goDrive 2 = .ok (.invokevirtual 277, 3) := by decide +kernel
theorem dX11_goDrive_5 : decode cX11_goDrive 5 = .ok (.iconst 0, 1) := by decide +kernel
theorem dX11_goDrive_6 : decode cX11_goDrive 6 = .ok (.istore_n 2, 1) := by decide +kernel
theorem dX11_goDrive_7 : decode cX11_goDrive 7 = .ok (.iload_n 2, 1) := by decide +kernel
theorem dX11_goDrive_8 : decode cX11_goDrive 8 = .ok (.bipush 7, 2) := by decide +kernel
theorem dX11_goDrive_10 : decode cX11_goDrive 10 = .ok (.if_icmp .ge 37, 3) := by decide +kernel
theorem dX11_goDrive_13 : decode cX11_goDrive 13 = .ok (.aload_n 0, 1) := by decide +kernel
theorem dX11_goDrive_14 : decode cX11_goDrive 14 = .ok (.iload_n 2, 1) := by decide +kernel
theorem dX11_goDrive_15 : decode cX11_goDrive 15 = .ok (.invokevirtual 281, 3) := by decide +kernel
theorem dX11_goDrive_18 : decode cX11_goDrive 18 = .ok (.iload_n 2, 1) := by decide +kernel
theorem dX11_goDrive_19 : decode cX11_goDrive 19 = .ok (.iconst 1, 1) := by decide +kernel
theorem dX11_goDrive_20 : decode cX11_goDrive 20 = .ok (.iadd, 1) := by decide +kernel
theorem dX11_goDrive_21 : decode cX11_goDrive 21 = .ok (.bipush 7, 2) := by decide +kernel
theorem dX11_goDrive_23 : decode cX11_goDrive 23 = .ok (.if_icmp .ge 18, 3) := by decide +kernel
theorem dX11_goDrive_26 : decode cX11_goDrive 26 = .ok (.aload_n 0, 1) := by decide +kernel
theorem dX11_goDrive_27 : decode cX11_goDrive 27 = .ok (.dup, 1) := by decide +kernel
theorem dX11_goDrive_28 : decode cX11_goDrive 28 = .ok (.getfield 246, 3) := by decide +kernel
theorem dX11_goDrive_31 : decode cX11_goDrive 31 = .ok (.aload_n 0, 1) := by decide +kernel
theorem dX11_goDrive_32 : decode cX11_goDrive 32 = .ok (.getfield 30, 3) := by decide +kernel
theorem dX11_goDrive_35 : decode cX11_goDrive 35 = .ok (.iload_n 2, 1) := by decide +kernel
theorem dX11_goDrive_36 : decode cX11_goDrive 36 = .ok (.iaload, 1) := by decide +kernel
theorem dX11_goDrive_37 : decode cX11_goDrive 37 = .ok (.iadd, 1) := by decide +kernel
theorem dX11_goDrive_38 : decode cX11_goDrive 38 = .ok (.putfield 246, 3) := by decide +kernel
theorem dX11_goDrive_41 : decode cX11_goDrive 41 = .ok (.iinc 2 1, 3) := by decide +kernel
theorem dX11_goDrive_44 : decode cX11_goDrive 44 = .ok (.goto (-37), 3) := by decide +kernel
theorem dX11_goDrive_47 : decode cX11_goDrive 47 = .ok (.return_, 1) := by decide +kernel
theorem dX11_costNow_0 : decode cX11_costNow 0 = .ok (.aload_n 0, 1) := by decide +kernel
theorem dX11_costNow_1 : decode cX11_costNow 1 = .ok (.getfield 33, 3) := by decide +kernel
theorem dX11_costNow_4 : decode cX11_costNow 4 = .ok (.aload_n 0, 1) := by decide +kernel
theorem dX11_costNow_5 : decode cX11_costNow 5 = .ok (.getfield 246, 3) := by decide +kernel
theorem dX11_costNow_8 : decode cX11_costNow 8 = .ok (.imul, 1) := by decide +kernel
theorem dX11_costNow_9 : decode cX11_costNow 9 = .ok (.aload_n 0, 1) := by decide +kernel
theorem dX11_costNow_10 : decode cX11_costNow 10 = .ok (.aload_n 0, 1) := by decide +kernel
theorem dX11_costNow_11 : decode cX11_costNow 11 = .ok (.getfield 243, 3) := by decide +kernel
theorem dX11_costNow_14 : decode cX11_costNow 14 = .ok (.invokevirtual 271, 3) := by decide +kernel
theorem dX11_costNow_17 : decode cX11_costNow 17 = .ok (.iadd, 1) := by decide +kernel
theorem dX11_costNow_18 : decode cX11_costNow 18 = .ok (.ireturn, 1) := by decide +kernel
theorem dX11_isTold_0 : decode cX11_isTold 0 = .ok (.iload_n 1, 1) := by decide +kernel
theorem dX11_isTold_1 : decode cX11_isTold 1 = .ok (.iconst 0, 1) := by decide +kernel
theorem dX11_isTold_2 : decode cX11_isTold 2 = .ok (.aload_n 0, 1) := by decide +kernel
theorem dX11_isTold_3 : decode cX11_isTold 3 = .ok (.invokevirtual 262, 3) := by decide +kernel
theorem dX11_isTold_6 : decode cX11_isTold 6 = .ok (.invokestatic 118, 3) := by decide +kernel
theorem dX11_isTold_9 : decode cX11_isTold 9 = .ok (.ireturn, 1) := by decide +kernel
theorem dX11_drive_0 : decode cX11_drive 0 = .ok (.aload_n 0, 1) := by decide +kernel
theorem dX11_drive_1 : decode cX11_drive 1 = .ok (.iload_n 1, 1) := by decide +kernel
theorem dX11_drive_2 : decode cX11_drive 2 = .ok (.invokevirtual 284, 3) := by decide +kernel
theorem dX11_drive_5 : decode cX11_drive 5 = .ok (.ifCond .eq 12, 3) := by decide +kernel
theorem dX11_drive_8 : decode cX11_drive 8 = .ok (.iload_n 2, 1) := by decide +kernel
theorem dX11_drive_9 : decode cX11_drive 9 = .ok (.iconst 0, 1) := by decide +kernel
theorem dX11_drive_10 : decode cX11_drive 10 = .ok (.iconst 4, 1) := by decide +kernel
theorem dX11_drive_11 : decode cX11_drive 11 = .ok (.invokestatic 118, 3) := by decide +kernel
theorem dX11_drive_14 : decode cX11_drive 14 = .ok (.ifCond .ne 5, 3) := by decide +kernel
theorem dX11_drive_17 : decode cX11_drive 17 = .ok (.iconst (-1), 1) := by decide +kernel
theorem dX11_drive_18 : decode cX11_drive 18 = .ok (.ireturn, 1) := by decide +kernel
theorem dX11_drive_19 : decode cX11_drive 19 = .ok (.aload_n 0, 1) := by decide +kernel
theorem dX11_drive_20 : decode cX11_drive 20 = .ok (.iload_n 1, 1) := by decide +kernel
theorem dX11_drive_21 : decode cX11_drive 21 = .ok (.invokevirtual 287, 3) := by decide +kernel
theorem dX11_drive_24 : decode cX11_drive 24 = .ok (.iload_n 2, 1) := by decide +kernel
theorem dX11_drive_25 : decode cX11_drive 25 = .ok (.tableswitch 51 0 3 #[31, 36, 41, 46], 31) := by decide +kernel
theorem dX11_drive_56 : decode cX11_drive 56 = .ok (.aload_n 0, 1) := by decide +kernel
theorem dX11_drive_57 : decode cX11_drive 57 = .ok (.getfield 246, 3) := by decide +kernel
theorem dX11_drive_60 : decode cX11_drive 60 = .ok (.ireturn, 1) := by decide +kernel
theorem dX11_drive_61 : decode cX11_drive 61 = .ok (.aload_n 0, 1) := by decide +kernel
theorem dX11_drive_62 : decode cX11_drive 62 = .ok (.getfield 249, 3) := by decide +kernel
theorem dX11_drive_65 : decode cX11_drive 65 = .ok (.ireturn, 1) := by decide +kernel
theorem dX11_drive_66 : decode cX11_drive 66 = .ok (.aload_n 0, 1) := by decide +kernel
theorem dX11_drive_67 : decode cX11_drive 67 = .ok (.getfield 252, 3) := by decide +kernel
theorem dX11_drive_70 : decode cX11_drive 70 = .ok (.ireturn, 1) := by decide +kernel
theorem dX11_drive_71 : decode cX11_drive 71 = .ok (.aload_n 0, 1) := by decide +kernel
theorem dX11_drive_72 : decode cX11_drive 72 = .ok (.getfield 243, 3) := by decide +kernel
theorem dX11_drive_75 : decode cX11_drive 75 = .ok (.ireturn, 1) := by decide +kernel
theorem dX11_drive_76 : decode cX11_drive 76 = .ok (.aload_n 0, 1) := by decide +kernel
theorem dX11_drive_77 : decode cX11_drive 77 = .ok (.invokevirtual 290, 3) := by decide +kernel
theorem dX11_drive_80 : decode cX11_drive 80 = .ok (.ireturn, 1) := by decide +kernel
theorem dX11_going_0 : decode cX11_going 0 = .ok (.aload_n 0, 1) := by decide +kernel
theorem dX11_going_1 : decode cX11_going 1 = .ok (.iload_n 1, 1) := by decide +kernel
theorem dX11_going_2 : decode cX11_going 2 = .ok (.invokevirtual 284, 3) := by decide +kernel
theorem dX11_going_5 : decode cX11_going 5 = .ok (.ifCond .eq 16, 3) := by decide +kernel
theorem dX11_going_8 : decode cX11_going 8 = .ok (.iload_n 2, 1) := by decide +kernel
theorem dX11_going_9 : decode cX11_going 9 = .ok (.ifCond .lt 12, 3) := by decide +kernel
theorem dX11_going_12 : decode cX11_going 12 = .ok (.iload_n 3, 1) := by decide +kernel
theorem dX11_going_13 : decode cX11_going 13 = .ok (.iconst 0, 1) := by decide +kernel
theorem dX11_going_14 : decode cX11_going 14 = .ok (.iconst 2, 1) := by decide +kernel
theorem dX11_going_15 : decode cX11_going 15 = .ok (.invokestatic 118, 3) := by decide +kernel
theorem dX11_going_18 : decode cX11_going 18 = .ok (.ifCond .ne 5, 3) := by decide +kernel
theorem dX11_going_21 : decode cX11_going 21 = .ok (.iconst (-1), 1) := by decide +kernel
theorem dX11_going_22 : decode cX11_going 22 = .ok (.ireturn, 1) := by decide +kernel
theorem dX11_going_23 : decode cX11_going 23 = .ok (.aload_n 0, 1) := by decide +kernel
theorem dX11_going_24 : decode cX11_going 24 = .ok (.iload_n 1, 1) := by decide +kernel
theorem dX11_going_25 : decode cX11_going 25 = .ok (.invokevirtual 287, 3) := by decide +kernel
theorem dX11_going_28 : decode cX11_going 28 = .ok (.iload_n 2, 1) := by decide +kernel
theorem dX11_going_29 : decode cX11_going 29 = .ok (.aload_n 0, 1) := by decide +kernel
theorem dX11_going_30 : decode cX11_going 30 = .ok (.getfield 249, 3) := by decide +kernel
theorem dX11_going_33 : decode cX11_going 33 = .ok (.if_icmp .lt 6, 3) := by decide +kernel
theorem dX11_going_36 : decode cX11_going 36 = .ok (.bipush (-2), 2) := by decide +kernel
theorem dX11_going_38 : decode cX11_going 38 = .ok (.ireturn, 1) := by decide +kernel
theorem dX11_going_39 : decode cX11_going 39 = .ok (.iload_n 3, 1) := by decide +kernel
theorem dX11_going_40 : decode cX11_going 40 = .ok (.ifCond .ne 12, 3) := by decide +kernel
theorem dX11_going_43 : decode cX11_going 43 = .ok (.aload_n 0, 1) := by decide +kernel
theorem dX11_going_44 : decode cX11_going 44 = .ok (.getfield 75, 3) := by decide +kernel
theorem dX11_going_47 : decode cX11_going 47 = .ok (.iload_n 2, 1) := by decide +kernel
theorem dX11_going_48 : decode cX11_going 48 = .ok (.iaload, 1) := by decide +kernel
theorem dX11_going_49 : decode cX11_going 49 = .ok (.goto 23, 3) := by decide +kernel
theorem dX11_going_52 : decode cX11_going 52 = .ok (.iload_n 3, 1) := by decide +kernel
theorem dX11_going_53 : decode cX11_going 53 = .ok (.iconst 1, 1) := by decide +kernel
theorem dX11_going_54 : decode cX11_going 54 = .ok (.if_icmp .ne 12, 3) := by decide +kernel
theorem dX11_going_57 : decode cX11_going 57 = .ok (.aload_n 0, 1) := by decide +kernel
theorem dX11_going_58 : decode cX11_going 58 = .ok (.getfield 78, 3) := by decide +kernel
theorem dX11_going_61 : decode cX11_going 61 = .ok (.iload_n 2, 1) := by decide +kernel
theorem dX11_going_62 : decode cX11_going 62 = .ok (.iaload, 1) := by decide +kernel
theorem dX11_going_63 : decode cX11_going 63 = .ok (.goto 9, 3) := by decide +kernel
theorem dX11_going_66 : decode cX11_going 66 = .ok (.aload_n 0, 1) := by decide +kernel
theorem dX11_going_67 : decode cX11_going 67 = .ok (.getfield 81, 3) := by decide +kernel
theorem dX11_going_70 : decode cX11_going 70 = .ok (.iload_n 2, 1) := by decide +kernel
theorem dX11_going_71 : decode cX11_going 71 = .ok (.iaload, 1) := by decide +kernel
theorem dX11_going_72 : decode cX11_going 72 = .ok (.ireturn, 1) := by decide +kernel
theorem dX11_findCosts_0 : decode cX11_findCosts 0 = .ok (.iconst 0, 1) := by decide +kernel
theorem dX11_findCosts_1 : decode cX11_findCosts 1 = .ok (.istore_n 1, 1) := by decide +kernel
theorem dX11_findCosts_2 : decode cX11_findCosts 2 = .ok (.iload_n 1, 1) := by decide +kernel
theorem dX11_findCosts_3 : decode cX11_findCosts 3 = .ok (.aload_n 0, 1) := by decide +kernel
theorem dX11_findCosts_4 : decode cX11_findCosts 4 = .ok (.invokevirtual 262, 3) := by decide +kernel
theorem dX11_findCosts_7 : decode cX11_findCosts 7 = .ok (.if_icmp .gt 24, 3) := by decide +kernel
theorem dX11_findCosts_10 : decode cX11_findCosts 10 = .ok (.aload_n 0, 1) := by decide +kernel
theorem dX11_findCosts_11 : decode cX11_findCosts 11 = .ok (.iload_n 1, 1) := by decide +kernel
theorem dX11_findCosts_12 : decode cX11_findCosts 12 = .ok (.invokevirtual 287, 3) := by decide +kernel
theorem dX11_findCosts_15 : decode cX11_findCosts 15 = .ok (.aload_n 0, 1) := by decide +kernel
theorem dX11_findCosts_16 : decode cX11_findCosts 16 = .ok (.getfield 84, 3) := by decide +kernel
theorem dX11_findCosts_19 : decode cX11_findCosts 19 = .ok (.iload_n 1, 1) := by decide +kernel
theorem dX11_findCosts_20 : decode cX11_findCosts 20 = .ok (.aload_n 0, 1) := by decide +kernel
theorem dX11_findCosts_21 : decode cX11_findCosts 21 = .ok (.invokevirtual 290, 3) := by decide +kernel
theorem dX11_findCosts_24 : decode cX11_findCosts 24 = .ok (.iastore, 1) := by decide +kernel
theorem dX11_findCosts_25 : decode cX11_findCosts 25 = .ok (.iinc 1 1, 3) := by decide +kernel
theorem dX11_findCosts_28 : decode cX11_findCosts 28 = .ok (.goto (-26), 3) := by decide +kernel
theorem dX11_findCosts_31 : decode cX11_findCosts 31 = .ok (.return_, 1) := by decide +kernel
theorem dX11_likelyOf_0 : decode cX11_likelyOf 0 = .ok (.lconst 1, 1) := by decide +kernel
theorem dX11_likelyOf_1 : decode cX11_likelyOf 1 = .ok (.lstore_n 2, 1) := by decide +kernel
theorem dX11_likelyOf_2 : decode cX11_likelyOf 2 = .ok (.iconst 0, 1) := by decide +kernel
theorem dX11_likelyOf_3 : decode cX11_likelyOf 3 = .ok (.istore 4, 2) := by decide +kernel
theorem dX11_likelyOf_5 : decode cX11_likelyOf 5 = .ok (.iload 4, 2) := by decide +kernel
theorem dX11_likelyOf_7 : decode cX11_likelyOf 7 = .ok (.aload_n 0, 1) := by decide +kernel
theorem dX11_likelyOf_8 : decode cX11_likelyOf 8 = .ok (.getfield 115, 3) := by decide +kernel
theorem dX11_likelyOf_11 : decode cX11_likelyOf 11 = .ok (.if_icmp .ge 44, 3) := by decide +kernel
theorem dX11_likelyOf_14 : decode cX11_likelyOf 14 = .ok (.lload_n 2, 1) := by decide +kernel
theorem dX11_likelyOf_15 : decode cX11_likelyOf 15 = .ok (.iload_n 1, 1) := by decide +kernel
theorem dX11_likelyOf_16 : decode cX11_likelyOf 16 = .ok (.iload 4, 2) := by decide +kernel
theorem dX11_likelyOf_18 : decode cX11_likelyOf 18 = .ok (.ishr, 1) := by decide +kernel
theorem dX11_likelyOf_19 : decode cX11_likelyOf 19 = .ok (.iconst 1, 1) := by decide +kernel
theorem dX11_likelyOf_20 : decode cX11_likelyOf 20 = .ok (.iand, 1) := by decide +kernel
theorem dX11_likelyOf_21 : decode cX11_likelyOf 21 = .ok (.iconst 1, 1) := by decide +kernel
theorem dX11_likelyOf_22 : decode cX11_likelyOf 22 = .ok (.if_icmp .ne 14, 3) := by decide +kernel
theorem dX11_likelyOf_25 : decode cX11_likelyOf 25 = .ok (.aload_n 0, 1) := by decide +kernel
theorem dX11_likelyOf_26 : decode cX11_likelyOf 26 = .ok (.getfield 15, 3) := by decide +kernel
theorem dX11_likelyOf_29 : decode cX11_likelyOf 29 = .ok (.iload 4, 2) := by decide +kernel
theorem dX11_likelyOf_31 : decode cX11_likelyOf 31 = .ok (.iaload, 1) := by decide +kernel
theorem dX11_likelyOf_32 : decode cX11_likelyOf 32 = .ok (.i2l, 1) := by decide +kernel
theorem dX11_likelyOf_33 : decode cX11_likelyOf 33 = .ok (.goto 14, 3) := by decide +kernel
theorem dX11_likelyOf_36 : decode cX11_likelyOf 36 = .ok (.bipush 12, 2) := by decide +kernel
theorem dX11_likelyOf_38 : decode cX11_likelyOf 38 = .ok (.aload_n 0, 1) := by decide +kernel
theorem dX11_likelyOf_39 : decode cX11_likelyOf 39 = .ok (.getfield 15, 3) := by decide +kernel
theorem dX11_likelyOf_42 : decode cX11_likelyOf 42 = .ok (.iload 4, 2) := by decide +kernel
theorem dX11_likelyOf_44 : decode cX11_likelyOf 44 = .ok (.iaload, 1) := by decide +kernel
theorem dX11_likelyOf_45 : decode cX11_likelyOf 45 = .ok (.isub, 1) := by decide +kernel
theorem dX11_likelyOf_46 : decode cX11_likelyOf 46 = .ok (.i2l, 1) := by decide +kernel
theorem dX11_likelyOf_47 : decode cX11_likelyOf 47 = .ok (.lmul, 1) := by decide +kernel
theorem dX11_likelyOf_48 : decode cX11_likelyOf 48 = .ok (.lstore_n 2, 1) := by decide +kernel
theorem dX11_likelyOf_49 : decode cX11_likelyOf 49 = .ok (.iinc 4 1, 3) := by decide +kernel
theorem dX11_likelyOf_52 : decode cX11_likelyOf 52 = .ok (.goto (-47), 3) := by decide +kernel
theorem dX11_likelyOf_55 : decode cX11_likelyOf 55 = .ok (.lload_n 2, 1) := by decide +kernel
theorem dX11_likelyOf_56 : decode cX11_likelyOf 56 = .ok (.lreturn, 1) := by decide +kernel
theorem dX11_power_0 : decode cX11_power 0 = .ok (.lconst 1, 1) := by decide +kernel
theorem dX11_power_1 : decode cX11_power 1 = .ok (.lstore_n 1, 1) := by decide +kernel
theorem dX11_power_2 : decode cX11_power 2 = .ok (.iconst 0, 1) := by decide +kernel
theorem dX11_power_3 : decode cX11_power 3 = .ok (.istore_n 3, 1) := by decide +kernel
theorem dX11_power_4 : decode cX11_power 4 = .ok (.iload_n 3, 1) := by decide +kernel
theorem dX11_power_5 : decode cX11_power 5 = .ok (.iload_n 0, 1) := by decide +kernel
theorem dX11_power_6 : decode cX11_power 6 = .ok (.if_icmp .ge 15, 3) := by decide +kernel
theorem dX11_power_9 : decode cX11_power 9 = .ok (.lload_n 1, 1) := by decide +kernel
theorem dX11_power_10 : decode cX11_power 10 = .ok (.ldc2_w 293, 3) := by decide +kernel
theorem dX11_power_13 : decode cX11_power 13 = .ok (.lmul, 1) := by decide +kernel
theorem dX11_power_14 : decode cX11_power 14 = .ok (.lstore_n 1, 1) := by decide +kernel
theorem dX11_power_15 : decode cX11_power 15 = .ok (.iinc 3 1, 3) := by decide +kernel
theorem dX11_power_18 : decode cX11_power 18 = .ok (.goto (-14), 3) := by decide +kernel
theorem dX11_power_21 : decode cX11_power 21 = .ok (.lload_n 1, 1) := by decide +kernel
theorem dX11_power_22 : decode cX11_power 22 = .ok (.lreturn, 1) := by decide +kernel
theorem dX11_asPart_0 : decode cX11_asPart 0 = .ok (.lload_n 0, 1) := by decide +kernel
theorem dX11_asPart_1 : decode cX11_asPart 1 = .ok (.lstore 5, 2) := by decide +kernel
theorem dX11_asPart_3 : decode cX11_asPart 3 = .ok (.lload_n 2, 1) := by decide +kernel
theorem dX11_asPart_4 : decode cX11_asPart 4 = .ok (.lstore 7, 2) := by decide +kernel
theorem dX11_asPart_6 : decode cX11_asPart 6 = .ok (.lload 7, 2) := by decide +kernel
theorem dX11_asPart_8 : decode cX11_asPart 8 = .ok (.lconst 0, 1) := by decide +kernel
theorem dX11_asPart_9 : decode cX11_asPart 9 = .ok (.lcmp, 1) := by decide +kernel
theorem dX11_asPart_10 : decode cX11_asPart 10 = .ok (.ifCond .eq 21, 3) := by decide +kernel
theorem dX11_asPart_13 : decode cX11_asPart 13 = .ok (.lload 5, 2) := by decide +kernel
theorem dX11_asPart_15 : decode cX11_asPart 15 = .ok (.lload 7, 2) := by decide +kernel
theorem dX11_asPart_17 : decode cX11_asPart 17 = .ok (.lrem, 1) := by decide +kernel
theorem dX11_asPart_18 : decode cX11_asPart 18 = .ok (.lstore 9, 2) := by decide +kernel
theorem dX11_asPart_20 : decode cX11_asPart 20 = .ok (.lload 7, 2) := by decide +kernel
theorem dX11_asPart_22 : decode cX11_asPart 22 = .ok (.lstore 5, 2) := by decide +kernel
theorem dX11_asPart_24 : decode cX11_asPart 24 = .ok (.lload 9, 2) := by decide +kernel
theorem dX11_asPart_26 : decode cX11_asPart 26 = .ok (.lstore 7, 2) := by decide +kernel
theorem dX11_asPart_28 : decode cX11_asPart 28 = .ok (.goto (-22), 3) := by decide +kernel
theorem dX11_asPart_31 : decode cX11_asPart 31 = .ok (.iload 4, 2) := by decide +kernel
theorem dX11_asPart_33 : decode cX11_asPart 33 = .ok (.ifCond .ne 10, 3) := by decide +kernel
theorem dX11_asPart_36 : decode cX11_asPart 36 = .ok (.lload_n 0, 1) := by decide +kernel
theorem dX11_asPart_37 : decode cX11_asPart 37 = .ok (.lload 5, 2) := by decide +kernel
theorem dX11_asPart_39 : decode cX11_asPart 39 = .ok (.ldiv, 1) := by decide +kernel
theorem dX11_asPart_40 : decode cX11_asPart 40 = .ok (.goto 7, 3) := by decide +kernel
theorem dX11_asPart_43 : decode cX11_asPart 43 = .ok (.lload_n 2, 1) := by decide +kernel
theorem dX11_asPart_44 : decode cX11_asPart 44 = .ok (.lload 5, 2) := by decide +kernel
theorem dX11_asPart_46 : decode cX11_asPart 46 = .ok (.ldiv, 1) := by decide +kernel
theorem dX11_asPart_47 : decode cX11_asPart 47 = .ok (.lreturn, 1) := by decide +kernel
theorem dX11_meanNow_0 : decode cX11_meanNow 0 = .ok (.lconst 0, 1) := by decide +kernel
theorem dX11_meanNow_1 : decode cX11_meanNow 1 = .ok (.lstore_n 1, 1) := by decide +kernel
theorem dX11_meanNow_2 : decode cX11_meanNow 2 = .ok (.iconst 0, 1) := by decide +kernel
theorem dX11_meanNow_3 : decode cX11_meanNow 3 = .ok (.istore_n 3, 1) := by decide +kernel
theorem dX11_meanNow_4 : decode cX11_meanNow 4 = .ok (.iload_n 3, 1) := by decide +kernel
theorem dX11_meanNow_5 : decode cX11_meanNow 5 = .ok (.aload_n 0, 1) := by decide +kernel
theorem dX11_meanNow_6 : decode cX11_meanNow 6 = .ok (.invokevirtual 262, 3) := by decide +kernel
theorem dX11_meanNow_9 : decode cX11_meanNow 9 = .ok (.if_icmp .gt 25, 3) := by decide +kernel
theorem dX11_meanNow_12 : decode cX11_meanNow 12 = .ok (.lload_n 1, 1) := by decide +kernel
theorem dX11_meanNow_13 : decode cX11_meanNow 13 = .ok (.aload_n 0, 1) := by decide +kernel
theorem dX11_meanNow_14 : decode cX11_meanNow 14 = .ok (.iload_n 3, 1) := by decide +kernel
theorem dX11_meanNow_15 : decode cX11_meanNow 15 = .ok (.invokevirtual 295, 3) := by decide +kernel
theorem dX11_meanNow_18 : decode cX11_meanNow 18 = .ok (.aload_n 0, 1) := by decide +kernel
theorem dX11_meanNow_19 : decode cX11_meanNow 19 = .ok (.getfield 84, 3) := by decide +kernel
theorem dX11_meanNow_22 : decode cX11_meanNow 22 = .ok (.iload_n 3, 1) := by decide +kernel
theorem dX11_meanNow_23 : decode cX11_meanNow 23 = .ok (.iaload, 1) := by decide +kernel
theorem dX11_meanNow_24 : decode cX11_meanNow 24 = .ok (.i2l, 1) := by decide +kernel
theorem dX11_meanNow_25 : decode cX11_meanNow 25 = .ok (.lmul, 1) := by decide +kernel
theorem dX11_meanNow_26 : decode cX11_meanNow 26 = .ok (.ladd, 1) := by decide +kernel
theorem dX11_meanNow_27 : decode cX11_meanNow 27 = .ok (.lstore_n 1, 1) := by decide +kernel
theorem dX11_meanNow_28 : decode cX11_meanNow 28 = .ok (.iinc 3 1, 3) := by decide +kernel
theorem dX11_meanNow_31 : decode cX11_meanNow 31 = .ok (.goto (-27), 3) := by decide +kernel
theorem dX11_meanNow_34 : decode cX11_meanNow 34 = .ok (.lload_n 1, 1) := by decide +kernel
theorem dX11_meanNow_35 : decode cX11_meanNow 35 = .ok (.lreturn, 1) := by decide +kernel
theorem dX11_isPart_0 : decode cX11_isPart 0 = .ok (.iload_n 0, 1) := by decide +kernel
theorem dX11_isPart_1 : decode cX11_isPart 1 = .ok (.iconst 0, 1) := by decide +kernel
theorem dX11_isPart_2 : decode cX11_isPart 2 = .ok (.iconst 1, 1) := by decide +kernel
theorem dX11_isPart_3 : decode cX11_isPart 3 = .ok (.invokestatic 118, 3) := by decide +kernel
theorem dX11_isPart_6 : decode cX11_isPart 6 = .ok (.ireturn, 1) := by decide +kernel
theorem dX11_mean_0 : decode cX11_mean 0 = .ok (.iload_n 1, 1) := by decide +kernel
theorem dX11_mean_1 : decode cX11_mean 1 = .ok (.invokestatic 299, 3) := by decide +kernel
theorem dX11_mean_4 : decode cX11_mean 4 = .ok (.ifCond .ne 7, 3) := by decide +kernel
theorem dX11_mean_7 : decode cX11_mean 7 = .ok (.ldc2_w 302, 3) := by decide +kernel
theorem dX11_mean_10 : decode cX11_mean 10 = .ok (.lreturn, 1) := by decide +kernel
theorem dX11_mean_11 : decode cX11_mean 11 = .ok (.aload_n 0, 1) := by decide +kernel
theorem dX11_mean_12 : decode cX11_mean 12 = .ok (.invokevirtual 304, 3) := by decide +kernel
theorem dX11_mean_15 : decode cX11_mean 15 = .ok (.aload_n 0, 1) := by decide +kernel
theorem dX11_mean_16 : decode cX11_mean 16 = .ok (.invokevirtual 307, 3) := by decide +kernel
theorem dX11_mean_19 : decode cX11_mean 19 = .ok (.aload_n 0, 1) := by decide +kernel
theorem dX11_mean_20 : decode cX11_mean 20 = .ok (.getfield 115, 3) := by decide +kernel
theorem dX11_mean_23 : decode cX11_mean 23 = .ok (.invokestatic 311, 3) := by decide +kernel
theorem dX11_mean_26 : decode cX11_mean 26 = .ok (.iload_n 1, 1) := by decide +kernel
theorem dX11_mean_27 : decode cX11_mean 27 = .ok (.invokestatic 314, 3) := by decide +kernel
theorem dX11_mean_30 : decode cX11_mean 30 = .ok (.lreturn, 1) := by decide +kernel
theorem dX11_likely_0 : decode cX11_likely 0 = .ok (.iload_n 1, 1) := by decide +kernel
theorem dX11_likely_1 : decode cX11_likely 1 = .ok (.iconst (-1), 1) := by decide +kernel
theorem dX11_likely_2 : decode cX11_likely 2 = .ok (.if_icmp .eq 11, 3) := by decide +kernel
theorem dX11_likely_5 : decode cX11_likely 5 = .ok (.aload_n 0, 1) := by decide +kernel
theorem dX11_likely_6 : decode cX11_likely 6 = .ok (.iload_n 1, 1) := by decide +kernel
theorem dX11_likely_7 : decode cX11_likely 7 = .ok (.invokevirtual 149, 3) := by decide +kernel
theorem dX11_likely_10 : decode cX11_likely 10 = .ok (.ifCond .eq 10, 3) := by decide +kernel
theorem dX11_likely_13 : decode cX11_likely 13 = .ok (.iload_n 2, 1) := by decide +kernel
theorem dX11_likely_14 : decode cX11_likely 14 = .ok (.invokestatic 299, 3) := by decide +kernel
theorem dX11_likely_17 : decode cX11_likely 17 = .ok (.ifCond .ne 7, 3) := by decide +kernel
theorem dX11_likely_20 : decode cX11_likely 20 = .ok (.ldc2_w 302, 3) := by decide +kernel
theorem dX11_likely_23 : decode cX11_likely 23 = .ok (.lreturn, 1) := by decide +kernel
theorem dX11_likely_24 : decode cX11_likely 24 = .ok (.lconst 0, 1) := by decide +kernel
theorem dX11_likely_25 : decode cX11_likely 25 = .ok (.lstore_n 3, 1) := by decide +kernel
theorem dX11_likely_26 : decode cX11_likely 26 = .ok (.iconst 0, 1) := by decide +kernel
theorem dX11_likely_27 : decode cX11_likely 27 = .ok (.istore 5, 2) := by decide +kernel
theorem dX11_likely_29 : decode cX11_likely 29 = .ok (.iload 5, 2) := by decide +kernel
theorem dX11_likely_31 : decode cX11_likely 31 = .ok (.aload_n 0, 1) := by decide +kernel
theorem dX11_likely_32 : decode cX11_likely 32 = .ok (.invokevirtual 262, 3) := by decide +kernel
theorem dX11_likely_35 : decode cX11_likely 35 = .ok (.if_icmp .gt 50, 3) := by decide +kernel
theorem dX11_likely_38 : decode cX11_likely 38 = .ok (.aload_n 0, 1) := by decide +kernel
theorem dX11_likely_39 : decode cX11_likely 39 = .ok (.iload 5, 2) := by decide +kernel
theorem dX11_likely_41 : decode cX11_likely 41 = .ok (.invokevirtual 287, 3) := by decide +kernel
theorem dX11_likely_44 : decode cX11_likely 44 = .ok (.iload_n 1, 1) := by decide +kernel
theorem dX11_likely_45 : decode cX11_likely 45 = .ok (.ifCond .ge 13, 3) := by decide +kernel
theorem dX11_likely_48 : decode cX11_likely 48 = .ok (.aload_n 0, 1) := by decide +kernel
theorem dX11_likely_49 : decode cX11_likely 49 = .ok (.getfield 249, 3) := by decide +kernel
theorem dX11_likely_52 : decode cX11_likely 52 = .ok (.ifCond .ne 27, 3) := by decide +kernel
theorem dX11_likely_55 : decode cX11_likely 55 = .ok (.goto 15, 3) := by decide +kernel
theorem dX11_likely_58 : decode cX11_likely 58 = .ok (.aload_n 0, 1) := by decide +kernel
theorem dX11_likely_59 : decode cX11_likely 59 = .ok (.getfield 243, 3) := by decide +kernel
theorem dX11_likely_62 : decode cX11_likely 62 = .ok (.iload_n 1, 1) := by decide +kernel
theorem dX11_likely_63 : decode cX11_likely 63 = .ok (.ishr, 1) := by decide +kernel
theorem dX11_likely_64 : decode cX11_likely 64 = .ok (.iconst 1, 1) := by decide +kernel
theorem dX11_likely_65 : decode cX11_likely 65 = .ok (.iand, 1) := by decide +kernel
theorem dX11_likely_66 : decode cX11_likely 66 = .ok (.iconst 1, 1) := by decide +kernel
theorem dX11_likely_67 : decode cX11_likely 67 = .ok (.if_icmp .ne 12, 3) := by decide +kernel
theorem dX11_likely_70 : decode cX11_likely 70 = .ok (.lload_n 3, 1) := by decide +kernel
theorem dX11_likely_71 : decode cX11_likely 71 = .ok (.aload_n 0, 1) := by decide +kernel
theorem dX11_likely_72 : decode cX11_likely 72 = .ok (.iload 5, 2) := by decide +kernel
theorem dX11_likely_74 : decode cX11_likely 74 = .ok (.invokevirtual 295, 3) := by decide +kernel
theorem dX11_likely_77 : decode cX11_likely 77 = .ok (.ladd, 1) := by decide +kernel
theorem dX11_likely_78 : decode cX11_likely 78 = .ok (.lstore_n 3, 1) := by decide +kernel
theorem dX11_likely_79 : decode cX11_likely 79 = .ok (.iinc 5 1, 3) := by decide +kernel
theorem dX11_likely_82 : decode cX11_likely 82 = .ok (.goto (-53), 3) := by decide +kernel
theorem dX11_likely_85 : decode cX11_likely 85 = .ok (.lload_n 3, 1) := by decide +kernel
theorem dX11_likely_86 : decode cX11_likely 86 = .ok (.aload_n 0, 1) := by decide +kernel
theorem dX11_likely_87 : decode cX11_likely 87 = .ok (.getfield 115, 3) := by decide +kernel
theorem dX11_likely_90 : decode cX11_likely 90 = .ok (.invokestatic 311, 3) := by decide +kernel
theorem dX11_likely_93 : decode cX11_likely 93 = .ok (.iload_n 2, 1) := by decide +kernel
theorem dX11_likely_94 : decode cX11_likely 94 = .ok (.invokestatic 314, 3) := by decide +kernel
theorem dX11_likely_97 : decode cX11_likely 97 = .ok (.lreturn, 1) := by decide +kernel
theorem dX11_aloudBy_0 : decode cX11_aloudBy 0 = .ok (.aload_n 0, 1) := by decide +kernel
theorem dX11_aloudBy_1 : decode cX11_aloudBy 1 = .ok (.bipush 6, 2) := by decide +kernel
theorem dX11_aloudBy_3 : decode cX11_aloudBy 3 = .ok (.invokevirtual 274, 3) := by decide +kernel
theorem dX11_aloudBy_6 : decode cX11_aloudBy 6 = .ok (.iload_n 1, 1) := by decide +kernel
theorem dX11_aloudBy_7 : decode cX11_aloudBy 7 = .ok (.ifCond .ne 7, 3) := by decide +kernel
theorem dX11_aloudBy_10 : decode cX11_aloudBy 10 = .ok (.iconst 0, 1) := by decide +kernel
theorem dX11_aloudBy_11 : decode cX11_aloudBy 11 = .ok (.goto 19, 3) := by decide +kernel
theorem dX11_aloudBy_14 : decode cX11_aloudBy 14 = .ok (.aload_n 0, 1) := by decide +kernel
theorem dX11_aloudBy_15 : decode cX11_aloudBy 15 = .ok (.iload_n 1, 1) := by decide +kernel
theorem dX11_aloudBy_16 : decode cX11_aloudBy 16 = .ok (.invokestatic 318, 3) := by decide +kernel
theorem dX11_aloudBy_19 : decode cX11_aloudBy 19 = .ok (.iload_n 2, 1) := by decide +kernel
theorem dX11_aloudBy_20 : decode cX11_aloudBy 20 = .ok (.iconst 0, 1) := by decide +kernel
theorem dX11_aloudBy_21 : decode cX11_aloudBy 21 = .ok (.aload_n 0, 1) := by decide +kernel
theorem dX11_aloudBy_22 : decode cX11_aloudBy 22 = .ok (.iload_n 1, 1) := by decide +kernel
theorem dX11_aloudBy_23 : decode cX11_aloudBy 23 = .ok (.invokevirtual 271, 3) := by decide +kernel
theorem dX11_aloudBy_26 : decode cX11_aloudBy 26 = .ok (.iconst 0, 1) := by decide +kernel
theorem dX11_aloudBy_27 : decode cX11_aloudBy 27 = .ok (.invokevirtual 258, 3) := by decide +kernel
theorem dX11_aloudBy_30 : decode cX11_aloudBy 30 = .ok (.iadd, 1) := by decide +kernel
theorem dX11_aloudBy_31 : decode cX11_aloudBy 31 = .ok (.ireturn, 1) := by decide +kernel
theorem dX11_aloud_0 : decode cX11_aloud 0 = .ok (.aload_n 0, 1) := by decide +kernel
theorem dX11_aloud_1 : decode cX11_aloud 1 = .ok (.iload_n 1, 1) := by decide +kernel
theorem dX11_aloud_2 : decode cX11_aloud 2 = .ok (.invokevirtual 284, 3) := by decide +kernel
theorem dX11_aloud_5 : decode cX11_aloud 5 = .ok (.ifCond .eq 21, 3) := by decide +kernel
theorem dX11_aloud_8 : decode cX11_aloud 8 = .ok (.iload_n 2, 1) := by decide +kernel
theorem dX11_aloud_9 : decode cX11_aloud 9 = .ok (.iconst 0, 1) := by decide +kernel
theorem dX11_aloud_10 : decode cX11_aloud 10 = .ok (.iconst 5, 1) := by decide +kernel
theorem dX11_aloud_11 : decode cX11_aloud 11 = .ok (.invokestatic 118, 3) := by decide +kernel
theorem dX11_aloud_14 : decode cX11_aloud 14 = .ok (.ifCond .eq 12, 3) := by decide +kernel
theorem dX11_aloud_17 : decode cX11_aloud 17 = .ok (.aload_n 0, 1) := by decide +kernel
theorem dX11_aloud_18 : decode cX11_aloud 18 = .ok (.iload_n 1, 1) := by decide +kernel
theorem dX11_aloud_19 : decode cX11_aloud 19 = .ok (.iload_n 2, 1) := by decide +kernel
theorem dX11_aloud_20 : decode cX11_aloud 20 = .ok (.invokevirtual 321, 3) := by decide +kernel
theorem dX11_aloud_23 : decode cX11_aloud 23 = .ok (.goto 4, 3) := by decide +kernel
theorem dX11_aloud_26 : decode cX11_aloud 26 = .ok (.iconst (-1), 1) := by decide +kernel
theorem dX11_aloud_27 : decode cX11_aloud 27 = .ok (.ireturn, 1) := by decide +kernel
theorem dX11_who_0 : decode cX11_who 0 = .ok (.aload_n 0, 1) := by decide +kernel
theorem dX11_who_1 : decode cX11_who 1 = .ok (.iload_n 1, 1) := by decide +kernel
theorem dX11_who_2 : decode cX11_who 2 = .ok (.invokevirtual 284, 3) := by decide +kernel
theorem dX11_who_5 : decode cX11_who 5 = .ok (.ifCond .ne 5, 3) := by decide +kernel
theorem dX11_who_8 : decode cX11_who 8 = .ok (.iconst (-1), 1) := by decide +kernel
theorem dX11_who_9 : decode cX11_who 9 = .ok (.ireturn, 1) := by decide +kernel
theorem dX11_who_10 : decode cX11_who 10 = .ok (.iconst 0, 1) := by decide +kernel
theorem dX11_who_11 : decode cX11_who 11 = .ok (.istore_n 2, 1) := by decide +kernel
theorem dX11_who_12 : decode cX11_who 12 = .ok (.iconst 1, 1) := by decide +kernel
theorem dX11_who_13 : decode cX11_who 13 = .ok (.istore_n 3, 1) := by decide +kernel
theorem dX11_who_14 : decode cX11_who 14 = .ok (.iload_n 3, 1) := by decide +kernel
theorem dX11_who_15 : decode cX11_who 15 = .ok (.bipush 6, 2) := by decide +kernel
theorem dX11_who_17 : decode cX11_who 17 = .ok (.if_icmp .ge 26, 3) := by decide +kernel
theorem dX11_who_20 : decode cX11_who 20 = .ok (.aload_n 0, 1) := by decide +kernel
theorem dX11_who_21 : decode cX11_who 21 = .ok (.iload_n 1, 1) := by decide +kernel
theorem dX11_who_22 : decode cX11_who 22 = .ok (.iload_n 3, 1) := by decide +kernel
theorem dX11_who_23 : decode cX11_who 23 = .ok (.invokevirtual 321, 3) := by decide +kernel
theorem dX11_who_26 : decode cX11_who 26 = .ok (.aload_n 0, 1) := by decide +kernel
theorem dX11_who_27 : decode cX11_who 27 = .ok (.iload_n 1, 1) := by decide +kernel
theorem dX11_who_28 : decode cX11_who 28 = .ok (.iload_n 2, 1) := by decide +kernel
theorem dX11_who_29 : decode cX11_who 29 = .ok (.invokevirtual 321, 3) := by decide +kernel
theorem dX11_who_32 : decode cX11_who 32 = .ok (.if_icmp .ge 5, 3) := by decide +kernel
theorem dX11_who_35 : decode cX11_who 35 = .ok (.iload_n 3, 1) := by decide +kernel
theorem dX11_who_36 : decode cX11_who 36 = .ok (.istore_n 2, 1) := by decide +kernel
theorem dX11_who_37 : decode cX11_who 37 = .ok (.iinc 3 1, 3) := by decide +kernel
theorem dX11_who_40 : decode cX11_who 40 = .ok (.goto (-26), 3) := by decide +kernel
theorem dX11_who_43 : decode cX11_who 43 = .ok (.iload_n 2, 1) := by decide +kernel
theorem dX11_who_44 : decode cX11_who 44 = .ok (.ireturn, 1) := by decide +kernel
theorem dX11_doorstep_0 : decode cX11_doorstep 0 = .ok (.iload_n 1, 1) := by decide +kernel
theorem dX11_doorstep_1 : decode cX11_doorstep 1 = .ok (.iconst 0, 1) := by decide +kernel
theorem dX11_doorstep_2 : decode cX11_doorstep 2 = .ok (.iconst 2, 1) := by decide +kernel
theorem dX11_doorstep_3 : decode cX11_doorstep 3 = .ok (.invokestatic 118, 3) := by decide +kernel
theorem dX11_doorstep_6 : decode cX11_doorstep 6 = .ok (.ifCond .ne 7, 3) := by decide +kernel
theorem dX11_doorstep_9 : decode cX11_doorstep 9 = .ok (.ldc2_w 302, 3) := by decide +kernel
theorem dX11_doorstep_12 : decode cX11_doorstep 12 = .ok (.lreturn, 1) := by decide +kernel
theorem dX11_doorstep_13 : decode cX11_doorstep 13 = .ok (.aload_n 0, 1) := by decide +kernel
theorem dX11_doorstep_14 : decode cX11_doorstep 14 = .ok (.getfield 115, 3) := by decide +kernel
theorem dX11_doorstep_17 : decode cX11_doorstep 17 = .ok (.ifCond .ne 7, 3) := by decide +kernel
theorem dX11_doorstep_20 : decode cX11_doorstep 20 = .ok (.ldc2_w 324, 3) := by decide +kernel
theorem dX11_doorstep_23 : decode cX11_doorstep 23 = .ok (.lreturn, 1) := by decide +kernel
theorem dX11_doorstep_24 : decode cX11_doorstep 24 = .ok (.aload_n 0, 1) := by decide +kernel
theorem dX11_doorstep_25 : decode cX11_doorstep 25 = .ok (.invokevirtual 304, 3) := by decide +kernel
