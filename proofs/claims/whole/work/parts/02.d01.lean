theorem dX1_init_0 : decode cX1_init 0 = .ok (.aload_n 0, 1) := by decide +kernel
theorem dX1_init_1 : decode cX1_init 1 = .ok (.invokespecial 1, 3) := by decide +kernel
theorem dX1_init_4 : decode cX1_init 4 = .ok (.aload_n 0, 1) := by decide +kernel
theorem dX1_init_5 : decode cX1_init 5 = .ok (.bipush 40, 2) := by decide +kernel
theorem dX1_init_7 : decode cX1_init 7 = .ok (.newarray .int, 2) := by decide +kernel
theorem dX1_init_9 : decode cX1_init 9 = .ok (.putfield 9, 3) := by decide +kernel
theorem dX1_init_12 : decode cX1_init 12 = .ok (.aload_n 0, 1) := by decide +kernel
theorem dX1_init_13 : decode cX1_init 13 = .ok (.bipush 40, 2) := by decide +kernel
theorem dX1_init_15 : decode cX1_init 15 = .ok (.newarray .int, 2) := by decide +kernel
theorem dX1_init_17 : decode cX1_init 17 = .ok (.putfield 13, 3) := by decide +kernel
theorem dX1_init_20 : decode cX1_init 20 = .ok (.aload_n 0, 1) := by decide +kernel
theorem dX1_init_21 : decode cX1_init 21 = .ok (.bipush 40, 2) := by decide +kernel
theorem dX1_init_23 : decode cX1_init 23 = .ok (.newarray .int, 2) := by decide +kernel
theorem dX1_init_25 : decode cX1_init 25 = .ok (.putfield 16, 3) := by decide +kernel
theorem dX1_init_28 : decode cX1_init 28 = .ok (.aload_n 0, 1) := by decide +kernel
theorem dX1_init_29 : decode cX1_init 29 = .ok (.bipush 40, 2) := by decide +kernel
theorem dX1_init_31 : decode cX1_init 31 = .ok (.newarray .int, 2) := by decide +kernel
theorem dX1_init_33 : decode cX1_init 33 = .ok (.putfield 19, 3) := by decide +kernel
theorem dX1_init_36 : decode cX1_init 36 = .ok (.return_, 1) := by decide +kernel
theorem dX1_note_0 : decode cX1_note 0 = .ok (.aload_n 0, 1) := by decide +kernel
theorem dX1_note_1 : decode cX1_note 1 = .ok (.getfield 22, 3) := by decide +kernel
theorem dX1_note_4 : decode cX1_note 4 = .ok (.bipush 40, 2) := by decide +kernel
theorem dX1_note_6 : decode cX1_note 6 = .ok (.if_icmp .lt 7, 3) := by decide +kernel
theorem dX1_note_9 : decode cX1_note 9 = .ok (.aload_n 0, 1) := by decide +kernel
theorem dX1_note_10 : decode cX1_note 10 = .ok (.invokevirtual 26, 3) := by decide +kernel
theorem dX1_note_13 : decode cX1_note 13 = .ok (.aload_n 0, 1) := by decide +kernel
theorem dX1_note_14 : decode cX1_note 14 = .ok (.getfield 22, 3) := by decide +kernel
theorem dX1_note_17 : decode cX1_note 17 = .ok (.ifCond .lt 62, 3) := by decide +kernel
theorem dX1_note_20 : decode cX1_note 20 = .ok (.aload_n 0, 1) := by decide +kernel
theorem dX1_note_21 : decode cX1_note 21 = .ok (.getfield 9, 3) := by decide +kernel
theorem dX1_note_24 : decode cX1_note 24 = .ok (.aload_n 0, 1) := by decide +kernel
theorem dX1_note_25 : decode cX1_note 25 = .ok (.getfield 22, 3) := by decide +kernel
theorem dX1_note_28 : decode cX1_note 28 = .ok (.iload_n 1, 1) := by decide +kernel
theorem dX1_note_29 : decode cX1_note 29 = .ok (.iastore, 1) := by decide +kernel
theorem dX1_note_30 : decode cX1_note 30 = .ok (.aload_n 0, 1) := by decide +kernel
theorem dX1_note_31 : decode cX1_note 31 = .ok (.getfield 13, 3) := by decide +kernel
theorem dX1_note_34 : decode cX1_note 34 = .ok (.aload_n 0, 1) := by decide +kernel
theorem dX1_note_35 : decode cX1_note 35 = .ok (.getfield 22, 3) := by decide +kernel
theorem dX1_note_38 : decode cX1_note 38 = .ok (.iload_n 2, 1) := by decide +kernel
theorem dX1_note_39 : decode cX1_note 39 = .ok (.iastore, 1) := by decide +kernel
theorem dX1_note_40 : decode cX1_note 40 = .ok (.aload_n 0, 1) := by decide +kernel
theorem dX1_note_41 : decode cX1_note 41 = .ok (.getfield 16, 3) := by decide +kernel
theorem dX1_note_44 : decode cX1_note 44 = .ok (.aload_n 0, 1) := by decide +kernel
theorem dX1_note_45 : decode cX1_note 45 = .ok (.getfield 22, 3) := by decide +kernel
theorem dX1_note_48 : decode cX1_note 48 = .ok (.iload_n 3, 1) := by decide +kernel
theorem dX1_note_49 : decode cX1_note 49 = .ok (.iastore, 1) := by decide +kernel
theorem dX1_note_50 : decode cX1_note 50 = .ok (.aload_n 0, 1) := by decide +kernel
theorem dX1_note_51 : decode cX1_note 51 = .ok (.getfield 19, 3) := by decide +kernel
theorem dX1_note_54 : decode cX1_note 54 = .ok (.aload_n 0, 1) := by decide +kernel
theorem dX1_note_55 : decode cX1_note 55 = .ok (.getfield 22, 3) := by decide +kernel
theorem dX1_note_58 : decode cX1_note 58 = .ok (.iload 4, 2) := by decide +kernel
theorem dX1_note_60 : decode cX1_note 60 = .ok (.iastore, 1) := by decide +kernel
theorem dX1_note_61 : decode cX1_note 61 = .ok (.aload_n 0, 1) := by decide +kernel
theorem dX1_note_62 : decode cX1_note 62 = .ok (.dup, 1) := by decide +kernel
theorem dX1_note_63 : decode cX1_note 63 = .ok (.getfield 22, 3) := by decide +kernel
theorem dX1_note_66 : decode cX1_note 66 = .ok (.iconst 1, 1) := by decide +kernel
theorem dX1_note_67 : decode cX1_note 67 = .ok (.iadd, 1) := by decide +kernel
theorem dX1_note_68 : decode cX1_note 68 = .ok (.putfield 22, 3) := by decide +kernel
theorem dX1_note_71 : decode cX1_note 71 = .ok (.aload_n 0, 1) := by decide +kernel
theorem dX1_note_72 : decode cX1_note 72 = .ok (.aload_n 0, 1) := by decide +kernel
theorem dX1_note_73 : decode cX1_note 73 = .ok (.getfield 22, 3) := by decide +kernel
theorem dX1_note_76 : decode cX1_note 76 = .ok (.putfield 29, 3) := by decide +kernel
theorem dX1_note_79 : decode cX1_note 79 = .ok (.return_, 1) := by decide +kernel
theorem dX1_forgetOldest_0 : decode cX1_forgetOldest 0 = .ok (.iconst 1, 1) := by decide +kernel
theorem dX1_forgetOldest_1 : decode cX1_forgetOldest 1 = .ok (.istore_n 1, 1) := by decide +kernel
theorem dX1_forgetOldest_2 : decode cX1_forgetOldest 2 = .ok (.iload_n 1, 1) := by decide +kernel
theorem dX1_forgetOldest_3 : decode cX1_forgetOldest 3 = .ok (.bipush 40, 2) := by decide +kernel
theorem dX1_forgetOldest_5 : decode cX1_forgetOldest 5 = .ok (.if_icmp .ge 65, 3) := by decide +kernel
theorem dX1_forgetOldest_8 : decode cX1_forgetOldest 8 = .ok (.aload_n 0, 1) := by decide +kernel
theorem dX1_forgetOldest_9 : decode cX1_forgetOldest 9 = .ok (.getfield 9, 3) := by decide +kernel
theorem dX1_forgetOldest_12 : decode cX1_forgetOldest 12 = .ok (.iload_n 1, 1) := by decide +kernel
theorem dX1_forgetOldest_13 : decode cX1_forgetOldest 13 = .ok (.iconst 1, 1) := by decide +kernel
theorem dX1_forgetOldest_14 : decode cX1_forgetOldest 14 = .ok (.isub, 1) := by decide +kernel
theorem dX1_forgetOldest_15 : decode cX1_forgetOldest 15 = .ok (.aload_n 0, 1) := by decide +kernel
theorem dX1_forgetOldest_16 : decode cX1_forgetOldest 16 = .ok (.getfield 9, 3) := by decide +kernel
theorem dX1_forgetOldest_19 : decode cX1_forgetOldest 19 = .ok (.iload_n 1, 1) := by decide +kernel
theorem dX1_forgetOldest_20 : decode cX1_forgetOldest 20 = .ok (.iaload, 1) := by decide +kernel
theorem dX1_forgetOldest_21 : decode cX1_forgetOldest 21 = .ok (.iastore, 1) := by decide +kernel
theorem dX1_forgetOldest_22 : decode cX1_forgetOldest 22 = .ok (.aload_n 0, 1) := by decide +kernel
theorem dX1_forgetOldest_23 : decode cX1_forgetOldest 23 = .ok (.getfield 13, 3) := by decide +kernel
theorem dX1_forgetOldest_26 : decode cX1_forgetOldest 26 = .ok (.iload_n 1, 1) := by decide +kernel
theorem dX1_forgetOldest_27 : decode cX1_forgetOldest 27 = .ok (.iconst 1, 1) := by decide +kernel
theorem dX1_forgetOldest_28 : decode cX1_forgetOldest 28 = .ok (.isub, 1) := by decide +kernel
theorem dX1_forgetOldest_29 : decode cX1_forgetOldest 29 = .ok (.aload_n 0, 1) := by decide +kernel
theorem dX1_forgetOldest_30 : decode cX1_forgetOldest 30 = .ok (.getfield 13, 3) := by decide +kernel
theorem dX1_forgetOldest_33 : decode cX1_forgetOldest 33 = .ok (.iload_n 1, 1) := by decide +kernel
theorem dX1_forgetOldest_34 : decode cX1_forgetOldest 34 = .ok (.iaload, 1) := by decide +kernel
theorem dX1_forgetOldest_35 : decode cX1_forgetOldest 35 = .ok (.iastore, 1) := by decide +kernel
theorem dX1_forgetOldest_36 : decode cX1_forgetOldest 36 = .ok (.aload_n 0, 1) := by decide +kernel
theorem dX1_forgetOldest_37 : decode cX1_forgetOldest 37 = .ok (.getfield 16, 3) := by decide +kernel
theorem dX1_forgetOldest_40 : decode cX1_forgetOldest 40 = .ok (.iload_n 1, 1) := by decide +kernel
theorem dX1_forgetOldest_41 : decode cX1_forgetOldest 41 = .ok (.iconst 1, 1) := by decide +kernel
theorem dX1_forgetOldest_42 : decode cX1_forgetOldest 42 = .ok (.isub, 1) := by decide +kernel
theorem dX1_forgetOldest_43 : decode cX1_forgetOldest 43 = .ok (.aload_n 0, 1) := by decide +kernel
theorem dX1_forgetOldest_44 : decode cX1_forgetOldest 44 = .ok (.getfield 16, 3) := by decide +kernel
theorem dX1_forgetOldest_47 : decode cX1_forgetOldest 47 = .ok (.iload_n 1, 1) := by decide +kernel
theorem dX1_forgetOldest_48 : decode cX1_forgetOldest 48 = .ok (.iaload, 1) := by decide +kernel
theorem dX1_forgetOldest_49 : decode cX1_forgetOldest 49 = .ok (.iastore, 1) := by decide +kernel
theorem dX1_forgetOldest_50 : decode cX1_forgetOldest 50 = .ok (.aload_n 0, 1) := by decide +kernel
theorem dX1_forgetOldest_51 : decode cX1_forgetOldest 51 = .ok (.getfield 19, 3) := by decide +kernel
theorem dX1_forgetOldest_54 : decode cX1_forgetOldest 54 = .ok (.iload_n 1, 1) := by decide +kernel
theorem dX1_forgetOldest_55 : decode cX1_forgetOldest 55 = .ok (.iconst 1, 1) := by decide +kernel
theorem dX1_forgetOldest_56 : decode cX1_forgetOldest 56 = .ok (.isub, 1) := by decide +kernel
theorem dX1_forgetOldest_57 : decode cX1_forgetOldest 57 = .ok (.aload_n 0, 1) := by decide +kernel
theorem dX1_forgetOldest_58 : decode cX1_forgetOldest 58 = .ok (.getfield 19, 3) := by decide +kernel
theorem dX1_forgetOldest_61 : decode cX1_forgetOldest 61 = .ok (.iload_n 1, 1) := by decide +kernel
theorem dX1_forgetOldest_62 : decode cX1_forgetOldest 62 = .ok (.iaload, 1) := by decide +kernel
theorem dX1_forgetOldest_63 : decode cX1_forgetOldest 63 = .ok (.iastore, 1) := by decide +kernel
theorem dX1_forgetOldest_64 : decode cX1_forgetOldest 64 = .ok (.iinc 1 1, 3) := by decide +kernel
theorem dX1_forgetOldest_67 : decode cX1_forgetOldest 67 = .ok (.goto (-65), 3) := by decide +kernel
theorem dX1_forgetOldest_70 : decode cX1_forgetOldest 70 = .ok (.aload_n 0, 1) := by decide +kernel
theorem dX1_forgetOldest_71 : decode cX1_forgetOldest 71 = .ok (.bipush 39, 2) := by decide +kernel
theorem dX1_forgetOldest_73 : decode cX1_forgetOldest 73 = .ok (.putfield 22, 3) := by decide +kernel
theorem dX1_forgetOldest_76 : decode cX1_forgetOldest 76 = .ok (.return_, 1) := by decide +kernel
theorem dX1_undoIn_0 : decode cX1_undoIn 0 = .ok (.aload_n 0, 1) := by decide +kernel
theorem dX1_undoIn_1 : decode cX1_undoIn 1 = .ok (.getfield 22, 3) := by decide +kernel
theorem dX1_undoIn_4 : decode cX1_undoIn 4 = .ok (.ifCond .le 12, 3) := by decide +kernel
theorem dX1_undoIn_7 : decode cX1_undoIn 7 = .ok (.aload_n 0, 1) := by decide +kernel
theorem dX1_undoIn_8 : decode cX1_undoIn 8 = .ok (.getfield 22, 3) := by decide +kernel
theorem dX1_undoIn_11 : decode cX1_undoIn 11 = .ok (.bipush 40, 2) := by decide +kernel
theorem dX1_undoIn_13 : decode cX1_undoIn 13 = .ok (.if_icmp .le 5, 3) := by decide +kernel
theorem dX1_undoIn_16 : decode cX1_undoIn 16 = .ok (.iconst 0, 1) := by decide +kernel
theorem dX1_undoIn_17 : decode cX1_undoIn 17 = .ok (.ireturn, 1) := by decide +kernel
theorem dX1_undoIn_18 : decode cX1_undoIn 18 = .ok (.aload_n 0, 1) := by decide +kernel
theorem dX1_undoIn_19 : decode cX1_undoIn 19 = .ok (.dup, 1) := by decide +kernel
theorem dX1_undoIn_20 : decode cX1_undoIn 20 = .ok (.getfield 22, 3) := by decide +kernel
theorem dX1_undoIn_23 : decode cX1_undoIn 23 = .ok (.iconst 1, 1) := by decide +kernel
theorem dX1_undoIn_24 : decode cX1_undoIn 24 = .ok (.isub, 1) := by decide +kernel
theorem dX1_undoIn_25 : decode cX1_undoIn 25 = .ok (.putfield 22, 3) := by decide +kernel
theorem dX1_undoIn_28 : decode cX1_undoIn 28 = .ok (.aload_n 1, 1) := by decide +kernel
theorem dX1_undoIn_29 : decode cX1_undoIn 29 = .ok (.aload_n 0, 1) := by decide +kernel
theorem dX1_undoIn_30 : decode cX1_undoIn 30 = .ok (.getfield 9, 3) := by decide +kernel
theorem dX1_undoIn_33 : decode cX1_undoIn 33 = .ok (.aload_n 0, 1) := by decide +kernel
theorem dX1_undoIn_34 : decode cX1_undoIn 34 = .ok (.getfield 22, 3) := by decide +kernel
theorem dX1_undoIn_37 : decode cX1_undoIn 37 = .ok (.iaload, 1) := by decide +kernel
theorem dX1_undoIn_38 : decode cX1_undoIn 38 = .ok (.aload_n 0, 1) := by decide +kernel
theorem dX1_undoIn_39 : decode cX1_undoIn 39 = .ok (.getfield 13, 3) := by decide +kernel
theorem dX1_undoIn_42 : decode cX1_undoIn 42 = .ok (.aload_n 0, 1) := by decide +kernel
theorem dX1_undoIn_43 : decode cX1_undoIn 43 = .ok (.getfield 22, 3) := by decide +kernel
theorem dX1_undoIn_46 : decode cX1_undoIn 46 = .ok (.iaload, 1) := by decide +kernel
theorem dX1_undoIn_47 : decode cX1_undoIn 47 = .ok (.aload_n 0, 1) := by decide +kernel
theorem dX1_undoIn_48 : decode cX1_undoIn 48 = .ok (.getfield 16, 3) := by decide +kernel
theorem dX1_undoIn_51 : decode cX1_undoIn 51 = .ok (.aload_n 0, 1) := by decide +kernel
theorem dX1_undoIn_52 : decode cX1_undoIn 52 = .ok (.getfield 22, 3) := by decide +kernel
theorem dX1_undoIn_55 : decode cX1_undoIn 55 = .ok (.iaload, 1) := by decide +kernel
theorem dX1_undoIn_56 : decode cX1_undoIn 56 = .ok (.invokevirtual 32, 3) := by decide +kernel
theorem dX1_undoIn_59 : decode cX1_undoIn 59 = .ok (.iconst 1, 1) := by decide +kernel
theorem dX1_undoIn_60 : decode cX1_undoIn 60 = .ok (.ireturn, 1) := by decide +kernel
theorem dX1_redoIn_0 : decode cX1_redoIn 0 = .ok (.aload_n 0, 1) := by decide +kernel
theorem dX1_redoIn_1 : decode cX1_redoIn 1 = .ok (.getfield 22, 3) := by decide +kernel
theorem dX1_redoIn_4 : decode cX1_redoIn 4 = .ok (.ifCond .lt 23, 3) := by decide +kernel
theorem dX1_redoIn_7 : decode cX1_redoIn 7 = .ok (.aload_n 0, 1) := by decide +kernel
theorem dX1_redoIn_8 : decode cX1_redoIn 8 = .ok (.getfield 22, 3) := by decide +kernel
theorem dX1_redoIn_11 : decode cX1_redoIn 11 = .ok (.aload_n 0, 1) := by decide +kernel
theorem dX1_redoIn_12 : decode cX1_redoIn 12 = .ok (.getfield 29, 3) := by decide +kernel
theorem dX1_redoIn_15 : decode cX1_redoIn 15 = .ok (.if_icmp .ge 12, 3) := by decide +kernel
theorem dX1_redoIn_18 : decode cX1_redoIn 18 = .ok (.aload_n 0, 1) := by decide +kernel
theorem dX1_redoIn_19 : decode cX1_redoIn 19 = .ok (.getfield 22, 3) := by decide +kernel
theorem dX1_redoIn_22 : decode cX1_redoIn 22 = .ok (.bipush 40, 2) := by decide +kernel
theorem dX1_redoIn_24 : decode cX1_redoIn 24 = .ok (.if_icmp .lt 5, 3) := by decide +kernel
theorem dX1_redoIn_27 : decode cX1_redoIn 27 = .ok (.iconst 0, 1) := by decide +kernel
theorem dX1_redoIn_28 : decode cX1_redoIn 28 = .ok (.ireturn, 1) := by decide +kernel
theorem dX1_redoIn_29 : decode cX1_redoIn 29 = .ok (.aload_n 1, 1) := by decide +kernel
theorem dX1_redoIn_30 : decode cX1_redoIn 30 = .ok (.aload_n 0, 1) := by decide +kernel
theorem dX1_redoIn_31 : decode cX1_redoIn 31 = .ok (.getfield 9, 3) := by decide +kernel
theorem dX1_redoIn_34 : decode cX1_redoIn 34 = .ok (.aload_n 0, 1) := by decide +kernel
theorem dX1_redoIn_35 : decode cX1_redoIn 35 = .ok (.getfield 22, 3) := by decide +kernel
theorem dX1_redoIn_38 : decode cX1_redoIn 38 = .ok (.iaload, 1) := by decide +kernel
theorem dX1_redoIn_39 : decode cX1_redoIn 39 = .ok (.aload_n 0, 1) := by decide +kernel
theorem dX1_redoIn_40 : decode cX1_redoIn 40 = .ok (.getfield 13, 3) := by decide +kernel
theorem dX1_redoIn_43 : decode cX1_redoIn 43 = .ok (.aload_n 0, 1) := by decide +kernel
theorem dX1_redoIn_44 : decode cX1_redoIn 44 = .ok (.getfield 22, 3) := by decide +kernel
theorem dX1_redoIn_47 : decode cX1_redoIn 47 = .ok (.iaload, 1) := by decide +kernel
theorem dX1_redoIn_48 : decode cX1_redoIn 48 = .ok (.aload_n 0, 1) := by decide +kernel
theorem dX1_redoIn_49 : decode cX1_redoIn 49 = .ok (.getfield 19, 3) := by decide +kernel
theorem dX1_redoIn_52 : decode cX1_redoIn 52 = .ok (.aload_n 0, 1) := by decide +kernel
theorem dX1_redoIn_53 : decode cX1_redoIn 53 = .ok (.getfield 22, 3) := by decide +kernel
theorem dX1_redoIn_56 : decode cX1_redoIn 56 = .ok (.iaload, 1) := by decide +kernel
theorem dX1_redoIn_57 : decode cX1_redoIn 57 = .ok (.invokevirtual 32, 3) := by decide +kernel
theorem dX1_redoIn_60 : decode cX1_redoIn 60 = .ok (.aload_n 0, 1) := by decide +kernel
theorem dX1_redoIn_61 : decode cX1_redoIn 61 = .ok (.dup, 1) := by decide +kernel
theorem dX1_redoIn_62 : decode cX1_redoIn 62 = .ok (.getfield 22, 3) := by decide +kernel
theorem dX1_redoIn_65 : decode cX1_redoIn 65 = .ok (.iconst 1, 1) := by decide +kernel
theorem dX1_redoIn_66 : decode cX1_redoIn 66 = .ok (.iadd, 1) := by decide +kernel
theorem dX1_redoIn_67 : decode cX1_redoIn 67 = .ok (.putfield 22, 3) := by decide +kernel
theorem dX1_redoIn_70 : decode cX1_redoIn 70 = .ok (.iconst 1, 1) := by decide +kernel
theorem dX1_redoIn_71 : decode cX1_redoIn 71 = .ok (.ireturn, 1) := by decide +kernel
theorem dX2_init_0 : decode cX2_init 0 = .ok (.aload_n 0, 1) := by decide +kernel
theorem dX2_init_1 : decode cX2_init 1 = .ok (.invokespecial 3, 3) := by decide +kernel
theorem dX2_init_4 : decode cX2_init 4 = .ok (.return_, 1) := by decide +kernel
theorem dX2_forgottenOf_0 : decode cX2_forgottenOf 0 = .ok (.iconst 0, 1) := by decide +kernel
theorem dX2_forgottenOf_1 : decode cX2_forgottenOf 1 = .ok (.istore_n 2, 1) := by decide +kernel
theorem dX2_forgottenOf_2 : decode cX2_forgottenOf 2 = .ok (.iconst 0, 1) := by decide +kernel
theorem dX2_forgottenOf_3 : decode cX2_forgottenOf 3 = .ok (.istore_n 3, 1) := by decide +kernel
theorem dX2_forgottenOf_4 : decode cX2_forgottenOf 4 = .ok (.iload_n 3, 1) := by decide +kernel
theorem dX2_forgottenOf_5 : decode cX2_forgottenOf 5 = .ok (.aload_n 1, 1) := by decide +kernel
theorem dX2_forgottenOf_6 : decode cX2_forgottenOf 6 = .ok (.getfield 9, 3) := by decide +kernel
theorem dX2_forgottenOf_9 : decode cX2_forgottenOf 9 = .ok (.if_icmp .ge 55, 3) := by decide +kernel
theorem dX2_forgottenOf_12 : decode cX2_forgottenOf 12 = .ok (.iload_n 3, 1) := by decide +kernel
theorem dX2_forgottenOf_13 : decode cX2_forgottenOf 13 = .ok (.bipush 8, 2) := by decide +kernel
theorem dX2_forgottenOf_15 : decode cX2_forgottenOf 15 = .ok (.if_icmp .ge 49, 3) := by decide +kernel
theorem dX2_forgottenOf_18 : decode cX2_forgottenOf 18 = .ok (.aload_n 0, 1) := by decide +kernel
theorem dX2_forgottenOf_19 : decode cX2_forgottenOf 19 = .ok (.aload_n 0, 1) := by decide +kernel
theorem dX2_forgottenOf_20 : decode cX2_forgottenOf 20 = .ok (.getfield 15, 3) := by decide +kernel
theorem dX2_forgottenOf_23 : decode cX2_forgottenOf 23 = .ok (.ldc 20, 2) := by decide +kernel
theorem dX2_forgottenOf_25 : decode cX2_forgottenOf 25 = .ok (.imul, 1) := by decide +kernel
theorem dX2_forgottenOf_26 : decode cX2_forgottenOf 26 = .ok (.sipush 12345, 3) := by decide +kernel
theorem dX2_forgottenOf_29 : decode cX2_forgottenOf 29 = .ok (.iadd, 1) := by decide +kernel
theorem dX2_forgottenOf_30 : decode cX2_forgottenOf 30 = .ok (.putfield 15, 3) := by decide +kernel
theorem dX2_forgottenOf_33 : decode cX2_forgottenOf 33 = .ok (.aload_n 0, 1) := by decide +kernel
theorem dX2_forgottenOf_34 : decode cX2_forgottenOf 34 = .ok (.getfield 15, 3) := by decide +kernel
theorem dX2_forgottenOf_37 : decode cX2_forgottenOf 37 = .ok (.bipush 8, 2) := by decide +kernel
theorem dX2_forgottenOf_39 : decode cX2_forgottenOf 39 = .ok (.iushr, 1) := by decide +kernel
theorem dX2_forgottenOf_40 : decode cX2_forgottenOf 40 = .ok (.bipush 12, 2) := by decide +kernel
theorem dX2_forgottenOf_42 : decode cX2_forgottenOf 42 = .ok (.irem, 1) := by decide +kernel
theorem dX2_forgottenOf_43 : decode cX2_forgottenOf 43 = .ok (.aload_n 1, 1) := by decide +kernel
theorem dX2_forgottenOf_44 : decode cX2_forgottenOf 44 = .ok (.iconst 1, 1) := by decide +kernel
theorem dX2_forgottenOf_45 : decode cX2_forgottenOf 45 = .ok (.iload_n 3, 1) := by decide +kernel
theorem dX2_forgottenOf_46 : decode cX2_forgottenOf 46 = .ok (.invokevirtual 21, 3) := by decide +kernel
theorem dX2_forgottenOf_49 : decode cX2_forgottenOf 49 = .ok (.if_icmp .ge 9, 3) := by decide +kernel
theorem dX2_forgottenOf_52 : decode cX2_forgottenOf 52 = .ok (.iload_n 2, 1) := by decide +kernel
theorem dX2_forgottenOf_53 : decode cX2_forgottenOf 53 = .ok (.iconst 1, 1) := by decide +kernel
theorem dX2_forgottenOf_54 : decode cX2_forgottenOf 54 = .ok (.iload_n 3, 1) := by decide +kernel
theorem dX2_forgottenOf_55 : decode cX2_forgottenOf 55 = .ok (.ishl, 1) := by decide +kernel
theorem dX2_forgottenOf_56 : decode cX2_forgottenOf 56 = .ok (.ior, 1) := by decide +kernel
theorem dX2_forgottenOf_57 : decode cX2_forgottenOf 57 = .ok (.istore_n 2, 1) := by decide +kernel
theorem dX2_forgottenOf_58 : decode cX2_forgottenOf 58 = .ok (.iinc 3 1, 3) := by decide +kernel
theorem dX2_forgottenOf_61 : decode cX2_forgottenOf 61 = .ok (.goto (-57), 3) := by decide +kernel
theorem dX2_forgottenOf_64 : decode cX2_forgottenOf 64 = .ok (.iload_n 2, 1) := by decide +kernel
theorem dX2_forgottenOf_65 : decode cX2_forgottenOf 65 = .ok (.ireturn, 1) := by decide +kernel
