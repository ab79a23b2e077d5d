theorem dX6_isDigit_13 : decode cX6_isDigit 13 = .ok (.goto 4, 3) := by decide +kernel
theorem dX6_isDigit_16 : decode cX6_isDigit 16 = .ok (.iconst 0, 1) := by decide +kernel
theorem dX6_isDigit_17 : decode cX6_isDigit 17 = .ok (.ireturn, 1) := by decide +kernel
theorem dX6_nameOf_0 : decode cX6_nameOf 0 = .ok (.iload_n 0, 1) := by decide +kernel
theorem dX6_nameOf_1 : decode cX6_nameOf 1 = .ok (.tableswitch 77 107 119 #[71, 77, 77, 67, 77, 69, 77, 77, 75, 77, 77, 77, 73], 67) := by decide +kernel
theorem dX6_nameOf_68 : decode cX6_nameOf 68 = .ok (.iconst 0, 1) := by decide +kernel
theorem dX6_nameOf_69 : decode cX6_nameOf 69 = .ok (.ireturn, 1) := by decide +kernel
theorem dX6_nameOf_70 : decode cX6_nameOf 70 = .ok (.iconst 1, 1) := by decide +kernel
theorem dX6_nameOf_71 : decode cX6_nameOf 71 = .ok (.ireturn, 1) := by decide +kernel
theorem dX6_nameOf_72 : decode cX6_nameOf 72 = .ok (.iconst 2, 1) := by decide +kernel
theorem dX6_nameOf_73 : decode cX6_nameOf 73 = .ok (.ireturn, 1) := by decide +kernel
theorem dX6_nameOf_74 : decode cX6_nameOf 74 = .ok (.iconst 3, 1) := by decide +kernel
theorem dX6_nameOf_75 : decode cX6_nameOf 75 = .ok (.ireturn, 1) := by decide +kernel
theorem dX6_nameOf_76 : decode cX6_nameOf 76 = .ok (.iconst 4, 1) := by decide +kernel
theorem dX6_nameOf_77 : decode cX6_nameOf 77 = .ok (.ireturn, 1) := by decide +kernel
theorem dX6_nameOf_78 : decode cX6_nameOf 78 = .ok (.iconst (-1), 1) := by decide +kernel
theorem dX6_nameOf_79 : decode cX6_nameOf 79 = .ok (.ireturn, 1) := by decide +kernel
theorem dX6_refuse_0 : decode cX6_refuse 0 = .ok (.aload_n 0, 1) := by decide +kernel
theorem dX6_refuse_1 : decode cX6_refuse 1 = .ok (.getfield 30, 3) := by decide +kernel
theorem dX6_refuse_4 : decode cX6_refuse 4 = .ok (.ifCond .ge 11, 3) := by decide +kernel
theorem dX6_refuse_7 : decode cX6_refuse 7 = .ok (.aload_n 0, 1) := by decide +kernel
theorem dX6_refuse_8 : decode cX6_refuse 8 = .ok (.aload_n 0, 1) := by decide +kernel
theorem dX6_refuse_9 : decode cX6_refuse 9 = .ok (.getfield 27, 3) := by decide +kernel
theorem dX6_refuse_12 : decode cX6_refuse 12 = .ok (.putfield 30, 3) := by decide +kernel
theorem dX6_refuse_15 : decode cX6_refuse 15 = .ok (.return_, 1) := by decide +kernel
theorem dX6_emit_0 : decode cX6_emit 0 = .ok (.aload_n 0, 1) := by decide +kernel
theorem dX6_emit_1 : decode cX6_emit 1 = .ok (.getfield 33, 3) := by decide +kernel
theorem dX6_emit_4 : decode cX6_emit 4 = .ok (.ifCond .lt 43, 3) := by decide +kernel
theorem dX6_emit_7 : decode cX6_emit 7 = .ok (.aload_n 0, 1) := by decide +kernel
theorem dX6_emit_8 : decode cX6_emit 8 = .ok (.getfield 33, 3) := by decide +kernel
theorem dX6_emit_11 : decode cX6_emit 11 = .ok (.sipush 128, 3) := by decide +kernel
theorem dX6_emit_14 : decode cX6_emit 14 = .ok (.if_icmp .ge 33, 3) := by decide +kernel
theorem dX6_emit_17 : decode cX6_emit 17 = .ok (.aload_n 0, 1) := by decide +kernel
theorem dX6_emit_18 : decode cX6_emit 18 = .ok (.getfield 17, 3) := by decide +kernel
theorem dX6_emit_21 : decode cX6_emit 21 = .ok (.aload_n 0, 1) := by decide +kernel
theorem dX6_emit_22 : decode cX6_emit 22 = .ok (.getfield 33, 3) := by decide +kernel
theorem dX6_emit_25 : decode cX6_emit 25 = .ok (.iload_n 1, 1) := by decide +kernel
theorem dX6_emit_26 : decode cX6_emit 26 = .ok (.iastore, 1) := by decide +kernel
theorem dX6_emit_27 : decode cX6_emit 27 = .ok (.aload_n 0, 1) := by decide +kernel
theorem dX6_emit_28 : decode cX6_emit 28 = .ok (.getfield 20, 3) := by decide +kernel
theorem dX6_emit_31 : decode cX6_emit 31 = .ok (.aload_n 0, 1) := by decide +kernel
theorem dX6_emit_32 : decode cX6_emit 32 = .ok (.getfield 33, 3) := by decide +kernel
theorem dX6_emit_35 : decode cX6_emit 35 = .ok (.iload_n 2, 1) := by decide +kernel
theorem dX6_emit_36 : decode cX6_emit 36 = .ok (.iastore, 1) := by decide +kernel
theorem dX6_emit_37 : decode cX6_emit 37 = .ok (.aload_n 0, 1) := by decide +kernel
theorem dX6_emit_38 : decode cX6_emit 38 = .ok (.dup, 1) := by decide +kernel
theorem dX6_emit_39 : decode cX6_emit 39 = .ok (.getfield 33, 3) := by decide +kernel
theorem dX6_emit_42 : decode cX6_emit 42 = .ok (.iconst 1, 1) := by decide +kernel
theorem dX6_emit_43 : decode cX6_emit 43 = .ok (.iadd, 1) := by decide +kernel
theorem dX6_emit_44 : decode cX6_emit 44 = .ok (.putfield 33, 3) := by decide +kernel
theorem dX6_emit_47 : decode cX6_emit 47 = .ok (.return_, 1) := by decide +kernel
theorem dX7_init_0 : decode cX7_init 0 = .ok (.aload_n 0, 1) := by decide +kernel
theorem dX7_init_1 : decode cX7_init 1 = .ok (.invokespecial 3, 3) := by decide +kernel
theorem dX7_init_4 : decode cX7_init 4 = .ok (.aload_n 0, 1) := by decide +kernel
theorem dX7_init_5 : decode cX7_init 5 = .ok (.bipush 60, 2) := by decide +kernel
theorem dX7_init_7 : decode cX7_init 7 = .ok (.newarray .long, 2) := by decide +kernel
theorem dX7_init_9 : decode cX7_init 9 = .ok (.putfield 11, 3) := by decide +kernel
theorem dX7_init_12 : decode cX7_init 12 = .ok (.return_, 1) := by decide +kernel
theorem dX7_becomeRow_0 : decode cX7_becomeRow 0 = .ok (.aload_n 0, 1) := by decide +kernel
theorem dX7_becomeRow_1 : decode cX7_becomeRow 1 = .ok (.iconst 2, 1) := by decide +kernel
theorem dX7_becomeRow_2 : decode cX7_becomeRow 2 = .ok (.putfield 15, 3) := by decide +kernel
theorem dX7_becomeRow_5 : decode cX7_becomeRow 5 = .ok (.aload_n 0, 1) := by decide +kernel
theorem dX7_becomeRow_6 : decode cX7_becomeRow 6 = .ok (.iload_n 1, 1) := by decide +kernel
theorem dX7_becomeRow_7 : decode cX7_becomeRow 7 = .ok (.putfield 19, 3) := by decide +kernel
theorem dX7_becomeRow_10 : decode cX7_becomeRow 10 = .ok (.aload_n 0, 1) := by decide +kernel
theorem dX7_becomeRow_11 : decode cX7_becomeRow 11 = .ok (.iload_n 2, 1) := by decide +kernel
theorem dX7_becomeRow_12 : decode cX7_becomeRow 12 = .ok (.putfield 22, 3) := by decide +kernel
theorem dX7_becomeRow_15 : decode cX7_becomeRow 15 = .ok (.iconst 0, 1) := by decide +kernel
theorem dX7_becomeRow_16 : decode cX7_becomeRow 16 = .ok (.istore_n 3, 1) := by decide +kernel
theorem dX7_becomeRow_17 : decode cX7_becomeRow 17 = .ok (.iload_n 3, 1) := by decide +kernel
theorem dX7_becomeRow_18 : decode cX7_becomeRow 18 = .ok (.bipush 60, 2) := by decide +kernel
theorem dX7_becomeRow_20 : decode cX7_becomeRow 20 = .ok (.if_icmp .ge 16, 3) := by decide +kernel
theorem dX7_becomeRow_23 : decode cX7_becomeRow 23 = .ok (.aload_n 0, 1) := by decide +kernel
theorem dX7_becomeRow_24 : decode cX7_becomeRow 24 = .ok (.getfield 11, 3) := by decide +kernel
theorem dX7_becomeRow_27 : decode cX7_becomeRow 27 = .ok (.iload_n 3, 1) := by decide +kernel
theorem dX7_becomeRow_28 : decode cX7_becomeRow 28 = .ok (.lconst 0, 1) := by decide +kernel
theorem dX7_becomeRow_29 : decode cX7_becomeRow 29 = .ok (.lastore, 1) := by decide +kernel
theorem dX7_becomeRow_30 : decode cX7_becomeRow 30 = .ok (.iinc 3 1, 3) := by decide +kernel
theorem dX7_becomeRow_33 : decode cX7_becomeRow 33 = .ok (.goto (-16), 3) := by decide +kernel
theorem dX7_becomeRow_36 : decode cX7_becomeRow 36 = .ok (.return_, 1) := by decide +kernel
theorem dX7_holdsBytes_0 : decode cX7_holdsBytes 0 = .ok (.aload_n 0, 1) := by decide +kernel
theorem dX7_holdsBytes_1 : decode cX7_holdsBytes 1 = .ok (.getfield 15, 3) := by decide +kernel
theorem dX7_holdsBytes_4 : decode cX7_holdsBytes 4 = .ok (.iconst 2, 1) := by decide +kernel
theorem dX7_holdsBytes_5 : decode cX7_holdsBytes 5 = .ok (.if_icmp .ne 14, 3) := by decide +kernel
theorem dX7_holdsBytes_8 : decode cX7_holdsBytes 8 = .ok (.aload_n 0, 1) := by decide +kernel
theorem dX7_holdsBytes_9 : decode cX7_holdsBytes 9 = .ok (.getfield 19, 3) := by decide +kernel
theorem dX7_holdsBytes_12 : decode cX7_holdsBytes 12 = .ok (.ifCond .ne 7, 3) := by decide +kernel
theorem dX7_holdsBytes_15 : decode cX7_holdsBytes 15 = .ok (.iconst 1, 1) := by decide +kernel
theorem dX7_holdsBytes_16 : decode cX7_holdsBytes 16 = .ok (.goto 4, 3) := by decide +kernel
theorem dX7_holdsBytes_19 : decode cX7_holdsBytes 19 = .ok (.iconst 0, 1) := by decide +kernel
theorem dX7_holdsBytes_20 : decode cX7_holdsBytes 20 = .ok (.ireturn, 1) := by decide +kernel
theorem dX7_refusalOfBytes_0 : decode cX7_refusalOfBytes 0 = .ok (.aload_n 0, 1) := by decide +kernel
theorem dX7_refusalOfBytes_1 : decode cX7_refusalOfBytes 1 = .ok (.getfield 15, 3) := by decide +kernel
theorem dX7_refusalOfBytes_4 : decode cX7_refusalOfBytes 4 = .ok (.ifCond .ne 6, 3) := by decide +kernel
theorem dX7_refusalOfBytes_7 : decode cX7_refusalOfBytes 7 = .ok (.bipush (-11), 2) := by decide +kernel
theorem dX7_refusalOfBytes_9 : decode cX7_refusalOfBytes 9 = .ok (.ireturn, 1) := by decide +kernel
theorem dX7_refusalOfBytes_10 : decode cX7_refusalOfBytes 10 = .ok (.aload_n 0, 1) := by decide +kernel
theorem dX7_refusalOfBytes_11 : decode cX7_refusalOfBytes 11 = .ok (.invokevirtual 25, 3) := by decide +kernel
theorem dX7_refusalOfBytes_14 : decode cX7_refusalOfBytes 14 = .ok (.ifCond .eq 7, 3) := by decide +kernel
theorem dX7_refusalOfBytes_17 : decode cX7_refusalOfBytes 17 = .ok (.iconst 0, 1) := by decide +kernel
theorem dX7_refusalOfBytes_18 : decode cX7_refusalOfBytes 18 = .ok (.goto 5, 3) := by decide +kernel
theorem dX7_refusalOfBytes_21 : decode cX7_refusalOfBytes 21 = .ok (.bipush (-12), 2) := by decide +kernel
theorem dX7_refusalOfBytes_23 : decode cX7_refusalOfBytes 23 = .ok (.ireturn, 1) := by decide +kernel
theorem dX7_refusalOfPlace_0 : decode cX7_refusalOfPlace 0 = .ok (.aload_n 0, 1) := by decide +kernel
theorem dX7_refusalOfPlace_1 : decode cX7_refusalOfPlace 1 = .ok (.getfield 15, 3) := by decide +kernel
theorem dX7_refusalOfPlace_4 : decode cX7_refusalOfPlace 4 = .ok (.ifCond .ne 6, 3) := by decide +kernel
theorem dX7_refusalOfPlace_7 : decode cX7_refusalOfPlace 7 = .ok (.bipush (-11), 2) := by decide +kernel
theorem dX7_refusalOfPlace_9 : decode cX7_refusalOfPlace 9 = .ok (.ireturn, 1) := by decide +kernel
theorem dX7_refusalOfPlace_10 : decode cX7_refusalOfPlace 10 = .ok (.aload_n 0, 1) := by decide +kernel
theorem dX7_refusalOfPlace_11 : decode cX7_refusalOfPlace 11 = .ok (.getfield 15, 3) := by decide +kernel
theorem dX7_refusalOfPlace_14 : decode cX7_refusalOfPlace 14 = .ok (.iconst 2, 1) := by decide +kernel
theorem dX7_refusalOfPlace_15 : decode cX7_refusalOfPlace 15 = .ok (.if_icmp .eq 6, 3) := by decide +kernel
theorem dX7_refusalOfPlace_18 : decode cX7_refusalOfPlace 18 = .ok (.bipush (-12), 2) := by decide +kernel
theorem dX7_refusalOfPlace_20 : decode cX7_refusalOfPlace 20 = .ok (.ireturn, 1) := by decide +kernel
theorem dX7_refusalOfPlace_21 : decode cX7_refusalOfPlace 21 = .ok (.aload_n 0, 1) := by decide +kernel
theorem dX7_refusalOfPlace_22 : decode cX7_refusalOfPlace 22 = .ok (.iload_n 1, 1) := by decide +kernel
theorem dX7_refusalOfPlace_23 : decode cX7_refusalOfPlace 23 = .ok (.iconst 1, 1) := by decide +kernel
theorem dX7_refusalOfPlace_24 : decode cX7_refusalOfPlace 24 = .ok (.invokevirtual 29, 3) := by decide +kernel
theorem dX7_refusalOfPlace_27 : decode cX7_refusalOfPlace 27 = .ok (.ifCond .eq 7, 3) := by decide +kernel
theorem dX7_refusalOfPlace_30 : decode cX7_refusalOfPlace 30 = .ok (.iconst 0, 1) := by decide +kernel
theorem dX7_refusalOfPlace_31 : decode cX7_refusalOfPlace 31 = .ok (.goto 5, 3) := by decide +kernel
theorem dX7_refusalOfPlace_34 : decode cX7_refusalOfPlace 34 = .ok (.bipush (-13), 2) := by decide +kernel
theorem dX7_refusalOfPlace_36 : decode cX7_refusalOfPlace 36 = .ok (.ireturn, 1) := by decide +kernel
theorem dX7_hasPlaces_0 : decode cX7_hasPlaces 0 = .ok (.aload_n 0, 1) := by decide +kernel
theorem dX7_hasPlaces_1 : decode cX7_hasPlaces 1 = .ok (.getfield 22, 3) := by decide +kernel
theorem dX7_hasPlaces_4 : decode cX7_hasPlaces 4 = .ok (.bipush 60, 2) := by decide +kernel
theorem dX7_hasPlaces_6 : decode cX7_hasPlaces 6 = .ok (.if_icmp .gt 33, 3) := by decide +kernel
theorem dX7_hasPlaces_9 : decode cX7_hasPlaces 9 = .ok (.iload_n 1, 1) := by decide +kernel
theorem dX7_hasPlaces_10 : decode cX7_hasPlaces 10 = .ok (.ifCond .lt 29, 3) := by decide +kernel
theorem dX7_hasPlaces_13 : decode cX7_hasPlaces 13 = .ok (.iload_n 2, 1) := by decide +kernel
theorem dX7_hasPlaces_14 : decode cX7_hasPlaces 14 = .ok (.ifCond .lt 25, 3) := by decide +kernel
theorem dX7_hasPlaces_17 : decode cX7_hasPlaces 17 = .ok (.iload_n 1, 1) := by decide +kernel
theorem dX7_hasPlaces_18 : decode cX7_hasPlaces 18 = .ok (.aload_n 0, 1) := by decide +kernel
theorem dX7_hasPlaces_19 : decode cX7_hasPlaces 19 = .ok (.getfield 22, 3) := by decide +kernel
theorem dX7_hasPlaces_22 : decode cX7_hasPlaces 22 = .ok (.if_icmp .gt 17, 3) := by decide +kernel
theorem dX7_hasPlaces_25 : decode cX7_hasPlaces 25 = .ok (.iload_n 2, 1) := by decide +kernel
theorem dX7_hasPlaces_26 : decode cX7_hasPlaces 26 = .ok (.aload_n 0, 1) := by decide +kernel
theorem dX7_hasPlaces_27 : decode cX7_hasPlaces 27 = .ok (.getfield 22, 3) := by decide +kernel
theorem dX7_hasPlaces_30 : decode cX7_hasPlaces 30 = .ok (.iload_n 1, 1) := by decide +kernel
theorem dX7_hasPlaces_31 : decode cX7_hasPlaces 31 = .ok (.isub, 1) := by decide +kernel
theorem dX7_hasPlaces_32 : decode cX7_hasPlaces 32 = .ok (.if_icmp .gt 7, 3) := by decide +kernel
theorem dX7_hasPlaces_35 : decode cX7_hasPlaces 35 = .ok (.iconst 1, 1) := by decide +kernel
theorem dX7_hasPlaces_36 : decode cX7_hasPlaces 36 = .ok (.goto 4, 3) := by decide +kernel
theorem dX7_hasPlaces_39 : decode cX7_hasPlaces 39 = .ok (.iconst 0, 1) := by decide +kernel
theorem dX7_hasPlaces_40 : decode cX7_hasPlaces 40 = .ok (.ireturn, 1) := by decide +kernel
theorem dX7_elementAt_0 : decode cX7_elementAt 0 = .ok (.iload_n 1, 1) := by decide +kernel
theorem dX7_elementAt_1 : decode cX7_elementAt 1 = .ok (.ifCond .lt 26, 3) := by decide +kernel
theorem dX7_elementAt_4 : decode cX7_elementAt 4 = .ok (.iload_n 1, 1) := by decide +kernel
theorem dX7_elementAt_5 : decode cX7_elementAt 5 = .ok (.aload_n 0, 1) := by decide +kernel
theorem dX7_elementAt_6 : decode cX7_elementAt 6 = .ok (.getfield 22, 3) := by decide +kernel
theorem dX7_elementAt_9 : decode cX7_elementAt 9 = .ok (.if_icmp .ge 18, 3) := by decide +kernel
theorem dX7_elementAt_12 : decode cX7_elementAt 12 = .ok (.iload_n 1, 1) := by decide +kernel
theorem dX7_elementAt_13 : decode cX7_elementAt 13 = .ok (.bipush 60, 2) := by decide +kernel
theorem dX7_elementAt_15 : decode cX7_elementAt 15 = .ok (.if_icmp .ge 12, 3) := by decide +kernel
theorem dX7_elementAt_18 : decode cX7_elementAt 18 = .ok (.aload_n 0, 1) := by decide +kernel
theorem dX7_elementAt_19 : decode cX7_elementAt 19 = .ok (.getfield 11, 3) := by decide +kernel
theorem dX7_elementAt_22 : decode cX7_elementAt 22 = .ok (.iload_n 1, 1) := by decide +kernel
theorem dX7_elementAt_23 : decode cX7_elementAt 23 = .ok (.laload, 1) := by decide +kernel
theorem dX7_elementAt_24 : decode cX7_elementAt 24 = .ok (.goto 4, 3) := by decide +kernel
theorem dX7_elementAt_27 : decode cX7_elementAt 27 = .ok (.lconst 0, 1) := by decide +kernel
theorem dX7_elementAt_28 : decode cX7_elementAt 28 = .ok (.lreturn, 1) := by decide +kernel
theorem dX7_store_0 : decode cX7_store 0 = .ok (.iload_n 1, 1) := by decide +kernel
theorem dX7_store_1 : decode cX7_store 1 = .ok (.ifCond .lt 28, 3) := by decide +kernel
theorem dX7_store_4 : decode cX7_store 4 = .ok (.iload_n 1, 1) := by decide +kernel
theorem dX7_store_5 : decode cX7_store 5 = .ok (.aload_n 0, 1) := by decide +kernel
theorem dX7_store_6 : decode cX7_store 6 = .ok (.getfield 22, 3) := by decide +kernel
theorem dX7_store_9 : decode cX7_store 9 = .ok (.if_icmp .ge 20, 3) := by decide +kernel
theorem dX7_store_12 : decode cX7_store 12 = .ok (.iload_n 1, 1) := by decide +kernel
theorem dX7_store_13 : decode cX7_store 13 = .ok (.bipush 60, 2) := by decide +kernel
theorem dX7_store_15 : decode cX7_store 15 = .ok (.if_icmp .ge 14, 3) := by decide +kernel
theorem dX7_store_18 : decode cX7_store 18 = .ok (.aload_n 0, 1) := by decide +kernel
theorem dX7_store_19 : decode cX7_store 19 = .ok (.getfield 11, 3) := by decide +kernel
theorem dX7_store_22 : decode cX7_store 22 = .ok (.iload_n 1, 1) := by decide +kernel
theorem dX7_store_23 : decode cX7_store 23 = .ok (.aload_n 0, 1) := by decide +kernel
theorem dX7_store_24 : decode cX7_store 24 = .ok (.lload_n 2, 1) := by decide +kernel
theorem dX7_store_25 : decode cX7_store 25 = .ok (.invokevirtual 33, 3) := by decide +kernel
theorem dX7_store_28 : decode cX7_store 28 = .ok (.lastore, 1) := by decide +kernel
theorem dX7_store_29 : decode cX7_store 29 = .ok (.return_, 1) := by decide +kernel
theorem dX7_lowestBits_0 : decode cX7_lowestBits 0 = .ok (.aload_n 0, 1) := by decide +kernel
theorem dX7_lowestBits_1 : decode cX7_lowestBits 1 = .ok (.getfield 19, 3) := by decide +kernel
theorem dX7_lowestBits_4 : decode cX7_lowestBits 4 = .ok (.tableswitch 48 0 3 #[32, 37, 42, 46], 32) := by decide +kernel
theorem dX7_lowestBits_36 : decode cX7_lowestBits 36 = .ok (.lload_n 1, 1) := by decide +kernel
theorem dX7_lowestBits_37 : decode cX7_lowestBits 37 = .ok (.l2i, 1) := by decide +kernel
theorem dX7_lowestBits_38 : decode cX7_lowestBits 38 = .ok (.i2b, 1) := by decide +kernel
theorem dX7_lowestBits_39 : decode cX7_lowestBits 39 = .ok (.i2l, 1) := by decide +kernel
theorem dX7_lowestBits_40 : decode cX7_lowestBits 40 = .ok (.lreturn, 1) := by decide +kernel
theorem dX7_lowestBits_41 : decode cX7_lowestBits 41 = .ok (.lload_n 1, 1) := by decide +kernel
theorem dX7_lowestBits_42 : decode cX7_lowestBits 42 = .ok (.l2i, 1) := by decide +kernel
theorem dX7_lowestBits_43 : decode cX7_lowestBits 43 = .ok (.i2s, 1) := by decide +kernel
theorem dX7_lowestBits_44 : decode cX7_lowestBits 44 = .ok (.i2l, 1) := by decide +kernel
theorem dX7_lowestBits_45 : decode cX7_lowestBits 45 = .ok (.lreturn, 1) := by decide +kernel
theorem dX7_lowestBits_46 : decode cX7_lowestBits 46 = .ok (.lload_n 1, 1) := by decide +kernel
theorem dX7_lowestBits_47 : decode cX7_lowestBits 47 = .ok (.l2i, 1) := by decide +kernel
theorem dX7_lowestBits_48 : decode cX7_lowestBits 48 = .ok (.i2l, 1) := by decide +kernel
theorem dX7_lowestBits_49 : decode cX7_lowestBits 49 = .ok (.lreturn, 1) := by decide +kernel
theorem dX7_lowestBits_50 : decode cX7_lowestBits 50 = .ok (.lload_n 1, 1) := by decide +kernel
theorem dX7_lowestBits_51 : decode cX7_lowestBits 51 = .ok (.lreturn, 1) := by decide +kernel
theorem dX7_lowestBits_52 : decode cX7_lowestBits 52 = .ok (.lload_n 1, 1) := by decide +kernel
theorem dX7_lowestBits_53 : decode cX7_lowestBits 53 = .ok (.lconst 0, 1) := by decide +kernel
theorem dX7_lowestBits_54 : decode cX7_lowestBits 54 = .ok (.lcmp, 1) := by decide +kernel
theorem dX7_lowestBits_55 : decode cX7_lowestBits 55 = .ok (.ifCond .eq 7, 3) := by decide +kernel
theorem dX7_lowestBits_58 : decode cX7_lowestBits 58 = .ok (.lconst 1, 1) := by decide +kernel
theorem dX7_lowestBits_59 : decode cX7_lowestBits 59 = .ok (.goto 4, 3) := by decide +kernel
theorem dX7_lowestBits_62 : decode cX7_lowestBits 62 = .ok (.lconst 0, 1) := by decide +kernel
theorem dX7_lowestBits_63 : decode cX7_lowestBits 63 = .ok (.lreturn, 1) := by decide +kernel
