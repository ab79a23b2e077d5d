-- ===== PART A: goes FIRST, ahead of the names: the tables' words, and 'selects' of the private methods out of them =====
/-- a private method of a class that the tables say can be made, by its rows of tables_1 -/
def lw_okq (q : MethodName × Nat) : Prop := (q.1.cls ≠ "java/lang/invoke/MethodHandle" ∧ q.1.cls ≠ "java/lang/invoke/VarHandle") ∧ Cond.instantiable q.1.cls q.2 ∈ tables_1 ∧ Cond.privateMethod q.1 ∈ tables_1 ∧ Cond.instanceMethod q.1 ∈ tables_1
theorem lw_p0 : lw_okq (⟨"BackHouse", "shelfAt", "(I)LBackHouse$Shelf;"⟩, 9) := ⟨⟨by decide +kernel, by decide +kernel⟩, List.mem_of_getElem? (i := 17) (by decide +kernel), List.mem_of_getElem? (i := 370) (by decide +kernel), List.mem_of_getElem? (i := 371) (by decide +kernel)⟩
theorem lw_p1 : lw_okq (⟨"BackHouse", "thingCame", "(LBackHouse$Shelf;I)Z"⟩, 9) := ⟨⟨by decide +kernel, by decide +kernel⟩, List.mem_of_getElem? (i := 17) (by decide +kernel), List.mem_of_getElem? (i := 378) (by decide +kernel), List.mem_of_getElem? (i := 379) (by decide +kernel)⟩
theorem lw_p2 : lw_okq (⟨"BackHouse$Changes", "forgetOldest", "()V"⟩, 6) := ⟨⟨by decide +kernel, by decide +kernel⟩, List.mem_of_getElem? (i := 74) (by decide +kernel), List.mem_of_getElem? (i := 406) (by decide +kernel), List.mem_of_getElem? (i := 407) (by decide +kernel)⟩
theorem lw_p3 : lw_okq (⟨"BackHouse$Reader", "line", "()V"⟩, 7) := ⟨⟨by decide +kernel, by decide +kernel⟩, List.mem_of_getElem? (i := 101) (by decide +kernel), List.mem_of_getElem? (i := 431) (by decide +kernel), List.mem_of_getElem? (i := 432) (by decide +kernel)⟩
theorem lw_p4 : lw_okq (⟨"BackHouse$Reader", "either", "(I)V"⟩, 7) := ⟨⟨by decide +kernel, by decide +kernel⟩, List.mem_of_getElem? (i := 101) (by decide +kernel), List.mem_of_getElem? (i := 435) (by decide +kernel), List.mem_of_getElem? (i := 436) (by decide +kernel)⟩
theorem lw_p5 : lw_okq (⟨"BackHouse$Reader", "both", "(I)V"⟩, 7) := ⟨⟨by decide +kernel, by decide +kernel⟩, List.mem_of_getElem? (i := 101) (by decide +kernel), List.mem_of_getElem? (i := 439) (by decide +kernel), List.mem_of_getElem? (i := 440) (by decide +kernel)⟩
theorem lw_p6 : lw_okq (⟨"BackHouse$Reader", "compared", "(I)V"⟩, 7) := ⟨⟨by decide +kernel, by decide +kernel⟩, List.mem_of_getElem? (i := 101) (by decide +kernel), List.mem_of_getElem? (i := 443) (by decide +kernel), List.mem_of_getElem? (i := 444) (by decide +kernel)⟩
theorem lw_p7 : lw_okq (⟨"BackHouse$Reader", "sum", "(I)V"⟩, 7) := ⟨⟨by decide +kernel, by decide +kernel⟩, List.mem_of_getElem? (i := 101) (by decide +kernel), List.mem_of_getElem? (i := 447) (by decide +kernel), List.mem_of_getElem? (i := 448) (by decide +kernel)⟩
theorem lw_p8 : lw_okq (⟨"BackHouse$Reader", "product", "(I)V"⟩, 7) := ⟨⟨by decide +kernel, by decide +kernel⟩, List.mem_of_getElem? (i := 101) (by decide +kernel), List.mem_of_getElem? (i := 451) (by decide +kernel), List.mem_of_getElem? (i := 452) (by decide +kernel)⟩
theorem lw_p9 : lw_okq (⟨"BackHouse$Reader", "operand", "(I)V"⟩, 7) := ⟨⟨by decide +kernel, by decide +kernel⟩, List.mem_of_getElem? (i := 101) (by decide +kernel), List.mem_of_getElem? (i := 455) (by decide +kernel), List.mem_of_getElem? (i := 456) (by decide +kernel)⟩
theorem lw_p10 : lw_okq (⟨"BackHouse$Reader", "letter", "()I"⟩, 7) := ⟨⟨by decide +kernel, by decide +kernel⟩, List.mem_of_getElem? (i := 101) (by decide +kernel), List.mem_of_getElem? (i := 459) (by decide +kernel), List.mem_of_getElem? (i := 460) (by decide +kernel)⟩
theorem lw_p11 : lw_okq (⟨"BackHouse$Reader", "number", "()V"⟩, 7) := ⟨⟨by decide +kernel, by decide +kernel⟩, List.mem_of_getElem? (i := 101) (by decide +kernel), List.mem_of_getElem? (i := 466) (by decide +kernel), List.mem_of_getElem? (i := 467) (by decide +kernel)⟩
theorem lw_p12 : lw_okq (⟨"BackHouse$Reader", "emit", "(II)V"⟩, 7) := ⟨⟨by decide +kernel, by decide +kernel⟩, List.mem_of_getElem? (i := 101) (by decide +kernel), List.mem_of_getElem? (i := 470) (by decide +kernel), List.mem_of_getElem? (i := 471) (by decide +kernel)⟩
theorem lw_p13 : lw_okq (⟨"BackHouse$Reader", "accepts", "(I)Z"⟩, 7) := ⟨⟨by decide +kernel, by decide +kernel⟩, List.mem_of_getElem? (i := 101) (by decide +kernel), List.mem_of_getElem? (i := 477) (by decide +kernel), List.mem_of_getElem? (i := 478) (by decide +kernel)⟩
theorem lw_p14 : lw_okq (⟨"BackHouse$Reader", "refuse", "()V"⟩, 7) := ⟨⟨by decide +kernel, by decide +kernel⟩, List.mem_of_getElem? (i := 101) (by decide +kernel), List.mem_of_getElem? (i := 481) (by decide +kernel), List.mem_of_getElem? (i := 482) (by decide +kernel)⟩
theorem lw_p15 : lw_okq (⟨"BackHouse$Drive", "mindedHere", "()I"⟩, 13) := ⟨⟨by decide +kernel, by decide +kernel⟩, List.mem_of_getElem? (i := 133) (by decide +kernel), List.mem_of_getElem? (i := 520) (by decide +kernel), List.mem_of_getElem? (i := 521) (by decide +kernel)⟩
def lw_privs_1 : List (MethodName × Nat) := [(⟨"BackHouse", "shelfAt", "(I)LBackHouse$Shelf;"⟩, 9), (⟨"BackHouse", "thingCame", "(LBackHouse$Shelf;I)Z"⟩, 9), (⟨"BackHouse$Changes", "forgetOldest", "()V"⟩, 6), (⟨"BackHouse$Reader", "line", "()V"⟩, 7), (⟨"BackHouse$Reader", "either", "(I)V"⟩, 7), (⟨"BackHouse$Reader", "both", "(I)V"⟩, 7), (⟨"BackHouse$Reader", "compared", "(I)V"⟩, 7), (⟨"BackHouse$Reader", "sum", "(I)V"⟩, 7), (⟨"BackHouse$Reader", "product", "(I)V"⟩, 7), (⟨"BackHouse$Reader", "operand", "(I)V"⟩, 7), (⟨"BackHouse$Reader", "letter", "()I"⟩, 7), (⟨"BackHouse$Reader", "number", "()V"⟩, 7), (⟨"BackHouse$Reader", "emit", "(II)V"⟩, 7), (⟨"BackHouse$Reader", "accepts", "(I)Z"⟩, 7), (⟨"BackHouse$Reader", "refuse", "()V"⟩, 7), (⟨"BackHouse$Drive", "mindedHere", "()I"⟩, 13)]
theorem lw_r1 : ∀ q ∈ lw_privs_1, lw_okq q := List.forall_mem_cons.mpr ⟨lw_p0, List.forall_mem_cons.mpr ⟨lw_p1, List.forall_mem_cons.mpr ⟨lw_p2, List.forall_mem_cons.mpr ⟨lw_p3, List.forall_mem_cons.mpr ⟨lw_p4, List.forall_mem_cons.mpr ⟨lw_p5, List.forall_mem_cons.mpr ⟨lw_p6, List.forall_mem_cons.mpr ⟨lw_p7, List.forall_mem_cons.mpr ⟨lw_p8, List.forall_mem_cons.mpr ⟨lw_p9, List.forall_mem_cons.mpr ⟨lw_p10, List.forall_mem_cons.mpr ⟨lw_p11, List.forall_mem_cons.mpr ⟨lw_p12, List.forall_mem_cons.mpr ⟨lw_p13, List.forall_mem_cons.mpr ⟨lw_p14, List.forall_mem_cons.mpr ⟨lw_p15, fun _ h => absurd h List.not_mem_nil⟩⟩⟩⟩⟩⟩⟩⟩⟩⟩⟩⟩⟩⟩⟩⟩
theorem lw_p16 : lw_okq (⟨"BackHouse$Drive", "open", "()I"⟩, 13) := ⟨⟨by decide +kernel, by decide +kernel⟩, List.mem_of_getElem? (i := 133) (by decide +kernel), List.mem_of_getElem? (i := 525) (by decide +kernel), List.mem_of_getElem? (i := 526) (by decide +kernel)⟩
theorem lw_p17 : lw_okq (⟨"BackHouse$Drive", "goFor", "(I)V"⟩, 13) := ⟨⟨by decide +kernel, by decide +kernel⟩, List.mem_of_getElem? (i := 133) (by decide +kernel), List.mem_of_getElem? (i := 534) (by decide +kernel), List.mem_of_getElem? (i := 535) (by decide +kernel)⟩
theorem lw_p18 : lw_okq (⟨"BackHouse$Law", "firstThatCounts", "()I"⟩, 5) := ⟨⟨by decide +kernel, by decide +kernel⟩, List.mem_of_getElem? (i := 33) (by decide +kernel), List.mem_of_getElem? (i := 552) (by decide +kernel), List.mem_of_getElem? (i := 553) (by decide +kernel)⟩
theorem lw_p19 : lw_okq (⟨"BackHouse$Law", "named", "(I)I"⟩, 5) := ⟨⟨by decide +kernel, by decide +kernel⟩, List.mem_of_getElem? (i := 33) (by decide +kernel), List.mem_of_getElem? (i := 556) (by decide +kernel), List.mem_of_getElem? (i := 557) (by decide +kernel)⟩
theorem lw_p20 : lw_okq (⟨"BackHouse$Drive", "noteGoing", "(III)V"⟩, 13) := ⟨⟨by decide +kernel, by decide +kernel⟩, List.mem_of_getElem? (i := 133) (by decide +kernel), List.mem_of_getElem? (i := 563) (by decide +kernel), List.mem_of_getElem? (i := 564) (by decide +kernel)⟩
theorem lw_p21 : lw_okq (⟨"BackHouse$Table", "part", "(IJJ)V"⟩, 8) := ⟨⟨by decide +kernel, by decide +kernel⟩, List.mem_of_getElem? (i := 191) (by decide +kernel), List.mem_of_getElem? (i := 604) (by decide +kernel), List.mem_of_getElem? (i := 605) (by decide +kernel)⟩
theorem lw_p22 : lw_okq (⟨"BackHouse$Acts", "perform", "(IIIII)I"⟩, 4) := ⟨⟨by decide +kernel, by decide +kernel⟩, List.mem_of_getElem? (i := 270) (by decide +kernel), List.mem_of_getElem? (i := 796) (by decide +kernel), List.mem_of_getElem? (i := 797) (by decide +kernel)⟩
theorem lw_p23 : lw_okq (⟨"BackHouse$Acts", "note", "(I)V"⟩, 4) := ⟨⟨by decide +kernel, by decide +kernel⟩, List.mem_of_getElem? (i := 270) (by decide +kernel), List.mem_of_getElem? (i := 813) (by decide +kernel), List.mem_of_getElem? (i := 814) (by decide +kernel)⟩
theorem lw_p24 : lw_okq (⟨"BackHouse$Shelf", "lowestBits", "(J)J"⟩, 5) := ⟨⟨by decide +kernel, by decide +kernel⟩, List.mem_of_getElem? (i := 293) (by decide +kernel), List.mem_of_getElem? (i := 846) (by decide +kernel), List.mem_of_getElem? (i := 847) (by decide +kernel)⟩
theorem lw_p25 : lw_okq (⟨"BackHouseModel", "addThing", "(IIII)I"⟩, 53) := ⟨⟨by decide +kernel, by decide +kernel⟩, List.mem_of_getElem? (i := 873) (by decide +kernel), List.mem_of_getElem? (i := 1050) (by decide +kernel), List.mem_of_getElem? (i := 1051) (by decide +kernel)⟩
theorem lw_p26 : lw_okq (⟨"BackHouseModel", "lays", "(III)V"⟩, 53) := ⟨⟨by decide +kernel, by decide +kernel⟩, List.mem_of_getElem? (i := 873) (by decide +kernel), List.mem_of_getElem? (i := 1066) (by decide +kernel), List.mem_of_getElem? (i := 1067) (by decide +kernel)⟩
theorem lw_p27 : lw_okq (⟨"BackHouseModel", "isOne", "(II)Z"⟩, 53) := ⟨⟨by decide +kernel, by decide +kernel⟩, List.mem_of_getElem? (i := 873) (by decide +kernel), List.mem_of_getElem? (i := 1078) (by decide +kernel), List.mem_of_getElem? (i := 1079) (by decide +kernel)⟩
theorem lw_p28 : lw_okq (⟨"BackHouseModel", "isThing", "(I)Z"⟩, 53) := ⟨⟨by decide +kernel, by decide +kernel⟩, List.mem_of_getElem? (i := 873) (by decide +kernel), List.mem_of_getElem? (i := 1082) (by decide +kernel), List.mem_of_getElem? (i := 1083) (by decide +kernel)⟩
theorem lw_p29 : lw_okq (⟨"BackHouseModel", "changes", "(III)I"⟩, 53) := ⟨⟨by decide +kernel, by decide +kernel⟩, List.mem_of_getElem? (i := 873) (by decide +kernel), List.mem_of_getElem? (i := 1089) (by decide +kernel), List.mem_of_getElem? (i := 1090) (by decide +kernel)⟩
theorem lw_p30 : lw_okq (⟨"BackHouseModel", "valueAt", "(II)I"⟩, 53) := ⟨⟨by decide +kernel, by decide +kernel⟩, List.mem_of_getElem? (i := 873) (by decide +kernel), List.mem_of_getElem? (i := 1093) (by decide +kernel), List.mem_of_getElem? (i := 1094) (by decide +kernel)⟩
theorem lw_p31 : lw_okq (⟨"BackHouseModel", "readText", "(I)I"⟩, 53) := ⟨⟨by decide +kernel, by decide +kernel⟩, List.mem_of_getElem? (i := 873) (by decide +kernel), List.mem_of_getElem? (i := 1109) (by decide +kernel), List.mem_of_getElem? (i := 1110) (by decide +kernel)⟩
def lw_privs_2 : List (MethodName × Nat) := [(⟨"BackHouse$Drive", "open", "()I"⟩, 13), (⟨"BackHouse$Drive", "goFor", "(I)V"⟩, 13), (⟨"BackHouse$Law", "firstThatCounts", "()I"⟩, 5), (⟨"BackHouse$Law", "named", "(I)I"⟩, 5), (⟨"BackHouse$Drive", "noteGoing", "(III)V"⟩, 13), (⟨"BackHouse$Table", "part", "(IJJ)V"⟩, 8), (⟨"BackHouse$Acts", "perform", "(IIIII)I"⟩, 4), (⟨"BackHouse$Acts", "note", "(I)V"⟩, 4), (⟨"BackHouse$Shelf", "lowestBits", "(J)J"⟩, 5), (⟨"BackHouseModel", "addThing", "(IIII)I"⟩, 53), (⟨"BackHouseModel", "lays", "(III)V"⟩, 53), (⟨"BackHouseModel", "isOne", "(II)Z"⟩, 53), (⟨"BackHouseModel", "isThing", "(I)Z"⟩, 53), (⟨"BackHouseModel", "changes", "(III)I"⟩, 53), (⟨"BackHouseModel", "valueAt", "(II)I"⟩, 53), (⟨"BackHouseModel", "readText", "(I)I"⟩, 53)]
theorem lw_r2 : ∀ q ∈ lw_privs_2, lw_okq q := List.forall_mem_cons.mpr ⟨lw_p16, List.forall_mem_cons.mpr ⟨lw_p17, List.forall_mem_cons.mpr ⟨lw_p18, List.forall_mem_cons.mpr ⟨lw_p19, List.forall_mem_cons.mpr ⟨lw_p20, List.forall_mem_cons.mpr ⟨lw_p21, List.forall_mem_cons.mpr ⟨lw_p22, List.forall_mem_cons.mpr ⟨lw_p23, List.forall_mem_cons.mpr ⟨lw_p24, List.forall_mem_cons.mpr ⟨lw_p25, List.forall_mem_cons.mpr ⟨lw_p26, List.forall_mem_cons.mpr ⟨lw_p27, List.forall_mem_cons.mpr ⟨lw_p28, List.forall_mem_cons.mpr ⟨lw_p29, List.forall_mem_cons.mpr ⟨lw_p30, List.forall_mem_cons.mpr ⟨lw_p31, fun _ h => absurd h List.not_mem_nil⟩⟩⟩⟩⟩⟩⟩⟩⟩⟩⟩⟩⟩⟩⟩⟩
theorem lw_p32 : lw_okq (⟨"BackHouseModel", "line", "()V"⟩, 53) := ⟨⟨by decide +kernel, by decide +kernel⟩, List.mem_of_getElem? (i := 873) (by decide +kernel), List.mem_of_getElem? (i := 1113) (by decide +kernel), List.mem_of_getElem? (i := 1114) (by decide +kernel)⟩
theorem lw_p33 : lw_okq (⟨"BackHouseModel", "either", "()V"⟩, 53) := ⟨⟨by decide +kernel, by decide +kernel⟩, List.mem_of_getElem? (i := 873) (by decide +kernel), List.mem_of_getElem? (i := 1117) (by decide +kernel), List.mem_of_getElem? (i := 1118) (by decide +kernel)⟩
theorem lw_p34 : lw_okq (⟨"BackHouseModel", "both", "()V"⟩, 53) := ⟨⟨by decide +kernel, by decide +kernel⟩, List.mem_of_getElem? (i := 873) (by decide +kernel), List.mem_of_getElem? (i := 1121) (by decide +kernel), List.mem_of_getElem? (i := 1122) (by decide +kernel)⟩
theorem lw_p35 : lw_okq (⟨"BackHouseModel", "compared", "()V"⟩, 53) := ⟨⟨by decide +kernel, by decide +kernel⟩, List.mem_of_getElem? (i := 873) (by decide +kernel), List.mem_of_getElem? (i := 1125) (by decide +kernel), List.mem_of_getElem? (i := 1126) (by decide +kernel)⟩
theorem lw_p36 : lw_okq (⟨"BackHouseModel", "sum", "()V"⟩, 53) := ⟨⟨by decide +kernel, by decide +kernel⟩, List.mem_of_getElem? (i := 873) (by decide +kernel), List.mem_of_getElem? (i := 1129) (by decide +kernel), List.mem_of_getElem? (i := 1130) (by decide +kernel)⟩
theorem lw_p37 : lw_okq (⟨"BackHouseModel", "product", "()V"⟩, 53) := ⟨⟨by decide +kernel, by decide +kernel⟩, List.mem_of_getElem? (i := 873) (by decide +kernel), List.mem_of_getElem? (i := 1133) (by decide +kernel), List.mem_of_getElem? (i := 1134) (by decide +kernel)⟩
theorem lw_p38 : lw_okq (⟨"BackHouseModel", "operand", "()V"⟩, 53) := ⟨⟨by decide +kernel, by decide +kernel⟩, List.mem_of_getElem? (i := 873) (by decide +kernel), List.mem_of_getElem? (i := 1137) (by decide +kernel), List.mem_of_getElem? (i := 1138) (by decide +kernel)⟩
theorem lw_p39 : lw_okq (⟨"BackHouseModel", "look", "()I"⟩, 53) := ⟨⟨by decide +kernel, by decide +kernel⟩, List.mem_of_getElem? (i := 873) (by decide +kernel), List.mem_of_getElem? (i := 1141) (by decide +kernel), List.mem_of_getElem? (i := 1142) (by decide +kernel)⟩
theorem lw_p40 : lw_okq (⟨"BackHouseModel", "addStep", "(II)V"⟩, 53) := ⟨⟨by decide +kernel, by decide +kernel⟩, List.mem_of_getElem? (i := 873) (by decide +kernel), List.mem_of_getElem? (i := 1148) (by decide +kernel), List.mem_of_getElem? (i := 1149) (by decide +kernel)⟩
theorem lw_p41 : lw_okq (⟨"BackHouseModel", "opens", "()Z"⟩, 53) := ⟨⟨by decide +kernel, by decide +kernel⟩, List.mem_of_getElem? (i := 873) (by decide +kernel), List.mem_of_getElem? (i := 1152) (by decide +kernel), List.mem_of_getElem? (i := 1153) (by decide +kernel)⟩
theorem lw_p42 : lw_okq (⟨"BackHouseModel", "faulty", "()V"⟩, 53) := ⟨⟨by decide +kernel, by decide +kernel⟩, List.mem_of_getElem? (i := 873) (by decide +kernel), List.mem_of_getElem? (i := 1156) (by decide +kernel), List.mem_of_getElem? (i := 1157) (by decide +kernel)⟩
theorem lw_p43 : lw_okq (⟨"BackHouseModel", "figure", "()V"⟩, 53) := ⟨⟨by decide +kernel, by decide +kernel⟩, List.mem_of_getElem? (i := 873) (by decide +kernel), List.mem_of_getElem? (i := 1160) (by decide +kernel), List.mem_of_getElem? (i := 1161) (by decide +kernel)⟩
theorem lw_p44 : lw_okq (⟨"BackHouseModel", "isTold", "(I)Z"⟩, 53) := ⟨⟨by decide +kernel, by decide +kernel⟩, List.mem_of_getElem? (i := 873) (by decide +kernel), List.mem_of_getElem? (i := 1168) (by decide +kernel), List.mem_of_getElem? (i := 1169) (by decide +kernel)⟩
theorem lw_p45 : lw_okq (⟨"BackHouseModel", "allThings", "()I"⟩, 53) := ⟨⟨by decide +kernel, by decide +kernel⟩, List.mem_of_getElem? (i := 873) (by decide +kernel), List.mem_of_getElem? (i := 1172) (by decide +kernel), List.mem_of_getElem? (i := 1173) (by decide +kernel)⟩
theorem lw_p46 : lw_okq (⟨"BackHouseModel", "goDrive", "(I)V"⟩, 53) := ⟨⟨by decide +kernel, by decide +kernel⟩, List.mem_of_getElem? (i := 873) (by decide +kernel), List.mem_of_getElem? (i := 1176) (by decide +kernel), List.mem_of_getElem? (i := 1177) (by decide +kernel)⟩
theorem lw_p47 : lw_okq (⟨"BackHouseModel", "begin", "(I)V"⟩, 53) := ⟨⟨by decide +kernel, by decide +kernel⟩, List.mem_of_getElem? (i := 873) (by decide +kernel), List.mem_of_getElem? (i := 1180) (by decide +kernel), List.mem_of_getElem? (i := 1181) (by decide +kernel)⟩
def lw_privs_3 : List (MethodName × Nat) := [(⟨"BackHouseModel", "line", "()V"⟩, 53), (⟨"BackHouseModel", "either", "()V"⟩, 53), (⟨"BackHouseModel", "both", "()V"⟩, 53), (⟨"BackHouseModel", "compared", "()V"⟩, 53), (⟨"BackHouseModel", "sum", "()V"⟩, 53), (⟨"BackHouseModel", "product", "()V"⟩, 53), (⟨"BackHouseModel", "operand", "()V"⟩, 53), (⟨"BackHouseModel", "look", "()I"⟩, 53), (⟨"BackHouseModel", "addStep", "(II)V"⟩, 53), (⟨"BackHouseModel", "opens", "()Z"⟩, 53), (⟨"BackHouseModel", "faulty", "()V"⟩, 53), (⟨"BackHouseModel", "figure", "()V"⟩, 53), (⟨"BackHouseModel", "isTold", "(I)Z"⟩, 53), (⟨"BackHouseModel", "allThings", "()I"⟩, 53), (⟨"BackHouseModel", "goDrive", "(I)V"⟩, 53), (⟨"BackHouseModel", "begin", "(I)V"⟩, 53)]
theorem lw_r3 : ∀ q ∈ lw_privs_3, lw_okq q := List.forall_mem_cons.mpr ⟨lw_p32, List.forall_mem_cons.mpr ⟨lw_p33, List.forall_mem_cons.mpr ⟨lw_p34, List.forall_mem_cons.mpr ⟨lw_p35, List.forall_mem_cons.mpr ⟨lw_p36, List.forall_mem_cons.mpr ⟨lw_p37, List.forall_mem_cons.mpr ⟨lw_p38, List.forall_mem_cons.mpr ⟨lw_p39, List.forall_mem_cons.mpr ⟨lw_p40, List.forall_mem_cons.mpr ⟨lw_p41, List.forall_mem_cons.mpr ⟨lw_p42, List.forall_mem_cons.mpr ⟨lw_p43, List.forall_mem_cons.mpr ⟨lw_p44, List.forall_mem_cons.mpr ⟨lw_p45, List.forall_mem_cons.mpr ⟨lw_p46, List.forall_mem_cons.mpr ⟨lw_p47, fun _ h => absurd h List.not_mem_nil⟩⟩⟩⟩⟩⟩⟩⟩⟩⟩⟩⟩⟩⟩⟩⟩
theorem lw_p48 : lw_okq (⟨"BackHouseModel", "stopAt", "(I)V"⟩, 53) := ⟨⟨by decide +kernel, by decide +kernel⟩, List.mem_of_getElem? (i := 873) (by decide +kernel), List.mem_of_getElem? (i := 1184) (by decide +kernel), List.mem_of_getElem? (i := 1185) (by decide +kernel)⟩
theorem lw_p49 : lw_okq (⟨"BackHouseModel", "comesAt", "(I)I"⟩, 53) := ⟨⟨by decide +kernel, by decide +kernel⟩, List.mem_of_getElem? (i := 873) (by decide +kernel), List.mem_of_getElem? (i := 1188) (by decide +kernel), List.mem_of_getElem? (i := 1189) (by decide +kernel)⟩
theorem lw_p50 : lw_okq (⟨"BackHouseModel", "goFor", "(II)V"⟩, 53) := ⟨⟨by decide +kernel, by decide +kernel⟩, List.mem_of_getElem? (i := 873) (by decide +kernel), List.mem_of_getElem? (i := 1192) (by decide +kernel), List.mem_of_getElem? (i := 1193) (by decide +kernel)⟩
theorem lw_p51 : lw_okq (⟨"BackHouseModel", "goingTakes", "(IIIII)I"⟩, 53) := ⟨⟨by decide +kernel, by decide +kernel⟩, List.mem_of_getElem? (i := 873) (by decide +kernel), List.mem_of_getElem? (i := 1196) (by decide +kernel), List.mem_of_getElem? (i := 1197) (by decide +kernel)⟩
theorem lw_p52 : lw_okq (⟨"BackHouseModel", "gives", "(I)I"⟩, 53) := ⟨⟨by decide +kernel, by decide +kernel⟩, List.mem_of_getElem? (i := 873) (by decide +kernel), List.mem_of_getElem? (i := 1200) (by decide +kernel), List.mem_of_getElem? (i := 1201) (by decide +kernel)⟩
theorem lw_p53 : lw_okq (⟨"BackHouseModel", "worked", "(III)I"⟩, 53) := ⟨⟨by decide +kernel, by decide +kernel⟩, List.mem_of_getElem? (i := 873) (by decide +kernel), List.mem_of_getElem? (i := 1204) (by decide +kernel), List.mem_of_getElem? (i := 1205) (by decide +kernel)⟩
theorem lw_p54 : lw_okq (⟨"BackHouseModel", "worthOf", "(I)I"⟩, 53) := ⟨⟨by decide +kernel, by decide +kernel⟩, List.mem_of_getElem? (i := 873) (by decide +kernel), List.mem_of_getElem? (i := 1211) (by decide +kernel), List.mem_of_getElem? (i := 1212) (by decide +kernel)⟩
theorem lw_p55 : lw_okq (⟨"BackHouseModel", "toHouse", "(I)I"⟩, 53) := ⟨⟨by decide +kernel, by decide +kernel⟩, List.mem_of_getElem? (i := 873) (by decide +kernel), List.mem_of_getElem? (i := 1215) (by decide +kernel), List.mem_of_getElem? (i := 1216) (by decide +kernel)⟩
theorem lw_p56 : lw_okq (⟨"BackHouseModel", "costNow", "()I"⟩, 53) := ⟨⟨by decide +kernel, by decide +kernel⟩, List.mem_of_getElem? (i := 873) (by decide +kernel), List.mem_of_getElem? (i := 1219) (by decide +kernel), List.mem_of_getElem? (i := 1220) (by decide +kernel)⟩
theorem lw_p57 : lw_okq (⟨"BackHouseModel", "findCosts", "()V"⟩, 53) := ⟨⟨by decide +kernel, by decide +kernel⟩, List.mem_of_getElem? (i := 873) (by decide +kernel), List.mem_of_getElem? (i := 1235) (by decide +kernel), List.mem_of_getElem? (i := 1236) (by decide +kernel)⟩
theorem lw_p58 : lw_okq (⟨"BackHouseModel", "meanNow", "()J"⟩, 53) := ⟨⟨by decide +kernel, by decide +kernel⟩, List.mem_of_getElem? (i := 873) (by decide +kernel), List.mem_of_getElem? (i := 1239) (by decide +kernel), List.mem_of_getElem? (i := 1240) (by decide +kernel)⟩
theorem lw_p59 : lw_okq (⟨"BackHouseModel", "likelyOf", "(I)J"⟩, 53) := ⟨⟨by decide +kernel, by decide +kernel⟩, List.mem_of_getElem? (i := 873) (by decide +kernel), List.mem_of_getElem? (i := 1243) (by decide +kernel), List.mem_of_getElem? (i := 1244) (by decide +kernel)⟩
theorem lw_p60 : lw_okq (⟨"BackHouseModel", "aloudBy", "(II)I"⟩, 53) := ⟨⟨by decide +kernel, by decide +kernel⟩, List.mem_of_getElem? (i := 873) (by decide +kernel), List.mem_of_getElem? (i := 1262) (by decide +kernel), List.mem_of_getElem? (i := 1263) (by decide +kernel)⟩
theorem lw_p61 : lw_okq (⟨"BackHouseModel", "meanBy", "(I)J"⟩, 53) := ⟨⟨by decide +kernel, by decide +kernel⟩, List.mem_of_getElem? (i := 873) (by decide +kernel), List.mem_of_getElem? (i := 1282) (by decide +kernel), List.mem_of_getElem? (i := 1283) (by decide +kernel)⟩
theorem lw_p62 : lw_okq (⟨"BackHouseModel", "rowFault", "(I)I"⟩, 53) := ⟨⟨by decide +kernel, by decide +kernel⟩, List.mem_of_getElem? (i := 873) (by decide +kernel), List.mem_of_getElem? (i := 1294) (by decide +kernel), List.mem_of_getElem? (i := 1295) (by decide +kernel)⟩
theorem lw_p63 : lw_okq (⟨"BackHouseModel", "wrongIn", "(II)I"⟩, 53) := ⟨⟨by decide +kernel, by decide +kernel⟩, List.mem_of_getElem? (i := 873) (by decide +kernel), List.mem_of_getElem? (i := 1298) (by decide +kernel), List.mem_of_getElem? (i := 1299) (by decide +kernel)⟩
def lw_privs_4 : List (MethodName × Nat) := [(⟨"BackHouseModel", "stopAt", "(I)V"⟩, 53), (⟨"BackHouseModel", "comesAt", "(I)I"⟩, 53), (⟨"BackHouseModel", "goFor", "(II)V"⟩, 53), (⟨"BackHouseModel", "goingTakes", "(IIIII)I"⟩, 53), (⟨"BackHouseModel", "gives", "(I)I"⟩, 53), (⟨"BackHouseModel", "worked", "(III)I"⟩, 53), (⟨"BackHouseModel", "worthOf", "(I)I"⟩, 53), (⟨"BackHouseModel", "toHouse", "(I)I"⟩, 53), (⟨"BackHouseModel", "costNow", "()I"⟩, 53), (⟨"BackHouseModel", "findCosts", "()V"⟩, 53), (⟨"BackHouseModel", "meanNow", "()J"⟩, 53), (⟨"BackHouseModel", "likelyOf", "(I)J"⟩, 53), (⟨"BackHouseModel", "aloudBy", "(II)I"⟩, 53), (⟨"BackHouseModel", "meanBy", "(I)J"⟩, 53), (⟨"BackHouseModel", "rowFault", "(I)I"⟩, 53), (⟨"BackHouseModel", "wrongIn", "(II)I"⟩, 53)]
theorem lw_r4 : ∀ q ∈ lw_privs_4, lw_okq q := List.forall_mem_cons.mpr ⟨lw_p48, List.forall_mem_cons.mpr ⟨lw_p49, List.forall_mem_cons.mpr ⟨lw_p50, List.forall_mem_cons.mpr ⟨lw_p51, List.forall_mem_cons.mpr ⟨lw_p52, List.forall_mem_cons.mpr ⟨lw_p53, List.forall_mem_cons.mpr ⟨lw_p54, List.forall_mem_cons.mpr ⟨lw_p55, List.forall_mem_cons.mpr ⟨lw_p56, List.forall_mem_cons.mpr ⟨lw_p57, List.forall_mem_cons.mpr ⟨lw_p58, List.forall_mem_cons.mpr ⟨lw_p59, List.forall_mem_cons.mpr ⟨lw_p60, List.forall_mem_cons.mpr ⟨lw_p61, List.forall_mem_cons.mpr ⟨lw_p62, List.forall_mem_cons.mpr ⟨lw_p63, fun _ h => absurd h List.not_mem_nil⟩⟩⟩⟩⟩⟩⟩⟩⟩⟩⟩⟩⟩⟩⟩⟩
theorem lw_p64 : lw_okq (⟨"BackHouseModel", "drawSet", "()I"⟩, 53) := ⟨⟨by decide +kernel, by decide +kernel⟩, List.mem_of_getElem? (i := 873) (by decide +kernel), List.mem_of_getElem? (i := 1318) (by decide +kernel), List.mem_of_getElem? (i := 1319) (by decide +kernel)⟩
theorem lw_p65 : lw_okq (⟨"BackHouseModel", "takeDeed", "()V"⟩, 53) := ⟨⟨by decide +kernel, by decide +kernel⟩, List.mem_of_getElem? (i := 873) (by decide +kernel), List.mem_of_getElem? (i := 1327) (by decide +kernel), List.mem_of_getElem? (i := 1328) (by decide +kernel)⟩
theorem lw_p66 : lw_okq (⟨"BackHouseModel", "layDeed", "()V"⟩, 53) := ⟨⟨by decide +kernel, by decide +kernel⟩, List.mem_of_getElem? (i := 873) (by decide +kernel), List.mem_of_getElem? (i := 1335) (by decide +kernel), List.mem_of_getElem? (i := 1336) (by decide +kernel)⟩
theorem lw_p67 : lw_okq (⟨"BackHouseModel", "isBody", "(I)Z"⟩, 53) := ⟨⟨by decide +kernel, by decide +kernel⟩, List.mem_of_getElem? (i := 873) (by decide +kernel), List.mem_of_getElem? (i := 1363) (by decide +kernel), List.mem_of_getElem? (i := 1364) (by decide +kernel)⟩
theorem lw_p68 : lw_okq (⟨"BackHouseModel", "goesOf", "(II)I"⟩, 53) := ⟨⟨by decide +kernel, by decide +kernel⟩, List.mem_of_getElem? (i := 873) (by decide +kernel), List.mem_of_getElem? (i := 1367) (by decide +kernel), List.mem_of_getElem? (i := 1368) (by decide +kernel)⟩
theorem lw_p69 : lw_okq (⟨"BackHouseModel", "ran", "(I)V"⟩, 53) := ⟨⟨by decide +kernel, by decide +kernel⟩, List.mem_of_getElem? (i := 873) (by decide +kernel), List.mem_of_getElem? (i := 1374) (by decide +kernel), List.mem_of_getElem? (i := 1375) (by decide +kernel)⟩
theorem lw_p70 : lw_okq (⟨"BackHouseModel", "plainGoes", "(II)I"⟩, 53) := ⟨⟨by decide +kernel, by decide +kernel⟩, List.mem_of_getElem? (i := 873) (by decide +kernel), List.mem_of_getElem? (i := 1378) (by decide +kernel), List.mem_of_getElem? (i := 1379) (by decide +kernel)⟩
theorem lw_p71 : lw_okq (⟨"BackHouseModel", "leftGoes", "(II)I"⟩, 53) := ⟨⟨by decide +kernel, by decide +kernel⟩, List.mem_of_getElem? (i := 873) (by decide +kernel), List.mem_of_getElem? (i := 1382) (by decide +kernel), List.mem_of_getElem? (i := 1383) (by decide +kernel)⟩
theorem lw_p72 : lw_okq (⟨"BackHouseModel", "finding", "(II)I"⟩, 53) := ⟨⟨by decide +kernel, by decide +kernel⟩, List.mem_of_getElem? (i := 873) (by decide +kernel), List.mem_of_getElem? (i := 1386) (by decide +kernel), List.mem_of_getElem? (i := 1387) (by decide +kernel)⟩
theorem lw_p73 : lw_okq (⟨"BackHouseModel", "longFinds", "(II)I"⟩, 53) := ⟨⟨by decide +kernel, by decide +kernel⟩, List.mem_of_getElem? (i := 873) (by decide +kernel), List.mem_of_getElem? (i := 1390) (by decide +kernel), List.mem_of_getElem? (i := 1391) (by decide +kernel)⟩
theorem lw_p74 : lw_okq (⟨"BackHouseModel", "plainFinds", "(II)I"⟩, 53) := ⟨⟨by decide +kernel, by decide +kernel⟩, List.mem_of_getElem? (i := 873) (by decide +kernel), List.mem_of_getElem? (i := 1394) (by decide +kernel), List.mem_of_getElem? (i := 1395) (by decide +kernel)⟩
theorem lw_p75 : lw_okq (⟨"BackHouseModel", "setting", "(II)I"⟩, 53) := ⟨⟨by decide +kernel, by decide +kernel⟩, List.mem_of_getElem? (i := 873) (by decide +kernel), List.mem_of_getElem? (i := 1398) (by decide +kernel), List.mem_of_getElem? (i := 1399) (by decide +kernel)⟩
theorem lw_p76 : lw_okq (⟨"BackHouseModel", "offSets", "(II)I"⟩, 53) := ⟨⟨by decide +kernel, by decide +kernel⟩, List.mem_of_getElem? (i := 873) (by decide +kernel), List.mem_of_getElem? (i := 1402) (by decide +kernel), List.mem_of_getElem? (i := 1403) (by decide +kernel)⟩
theorem lw_p77 : lw_okq (⟨"BackHouseModel", "plainSets", "(II)I"⟩, 53) := ⟨⟨by decide +kernel, by decide +kernel⟩, List.mem_of_getElem? (i := 873) (by decide +kernel), List.mem_of_getElem? (i := 1406) (by decide +kernel), List.mem_of_getElem? (i := 1407) (by decide +kernel)⟩
theorem lw_p78 : lw_okq (⟨"BackHouseModel", "telling", "(II)I"⟩, 53) := ⟨⟨by decide +kernel, by decide +kernel⟩, List.mem_of_getElem? (i := 873) (by decide +kernel), List.mem_of_getElem? (i := 1410) (by decide +kernel), List.mem_of_getElem? (i := 1411) (by decide +kernel)⟩
theorem lw_p79 : lw_okq (⟨"BackHouseModel", "plainTells", "(II)I"⟩, 53) := ⟨⟨by decide +kernel, by decide +kernel⟩, List.mem_of_getElem? (i := 873) (by decide +kernel), List.mem_of_getElem? (i := 1414) (by decide +kernel), List.mem_of_getElem? (i := 1415) (by decide +kernel)⟩
def lw_privs_5 : List (MethodName × Nat) := [(⟨"BackHouseModel", "drawSet", "()I"⟩, 53), (⟨"BackHouseModel", "takeDeed", "()V"⟩, 53), (⟨"BackHouseModel", "layDeed", "()V"⟩, 53), (⟨"BackHouseModel", "isBody", "(I)Z"⟩, 53), (⟨"BackHouseModel", "goesOf", "(II)I"⟩, 53), (⟨"BackHouseModel", "ran", "(I)V"⟩, 53), (⟨"BackHouseModel", "plainGoes", "(II)I"⟩, 53), (⟨"BackHouseModel", "leftGoes", "(II)I"⟩, 53), (⟨"BackHouseModel", "finding", "(II)I"⟩, 53), (⟨"BackHouseModel", "longFinds", "(II)I"⟩, 53), (⟨"BackHouseModel", "plainFinds", "(II)I"⟩, 53), (⟨"BackHouseModel", "setting", "(II)I"⟩, 53), (⟨"BackHouseModel", "offSets", "(II)I"⟩, 53), (⟨"BackHouseModel", "plainSets", "(II)I"⟩, 53), (⟨"BackHouseModel", "telling", "(II)I"⟩, 53), (⟨"BackHouseModel", "plainTells", "(II)I"⟩, 53)]
theorem lw_r5 : ∀ q ∈ lw_privs_5, lw_okq q := List.forall_mem_cons.mpr ⟨lw_p64, List.forall_mem_cons.mpr ⟨lw_p65, List.forall_mem_cons.mpr ⟨lw_p66, List.forall_mem_cons.mpr ⟨lw_p67, List.forall_mem_cons.mpr ⟨lw_p68, List.forall_mem_cons.mpr ⟨lw_p69, List.forall_mem_cons.mpr ⟨lw_p70, List.forall_mem_cons.mpr ⟨lw_p71, List.forall_mem_cons.mpr ⟨lw_p72, List.forall_mem_cons.mpr ⟨lw_p73, List.forall_mem_cons.mpr ⟨lw_p74, List.forall_mem_cons.mpr ⟨lw_p75, List.forall_mem_cons.mpr ⟨lw_p76, List.forall_mem_cons.mpr ⟨lw_p77, List.forall_mem_cons.mpr ⟨lw_p78, List.forall_mem_cons.mpr ⟨lw_p79, fun _ h => absurd h List.not_mem_nil⟩⟩⟩⟩⟩⟩⟩⟩⟩⟩⟩⟩⟩⟩⟩⟩
theorem lw_p80 : lw_okq (⟨"BackHouseModel", "whyNoPlace", "(II)I"⟩, 53) := ⟨⟨by decide +kernel, by decide +kernel⟩, List.mem_of_getElem? (i := 873) (by decide +kernel), List.mem_of_getElem? (i := 1434) (by decide +kernel), List.mem_of_getElem? (i := 1435) (by decide +kernel)⟩
def lw_privs_6 : List (MethodName × Nat) := [(⟨"BackHouseModel", "whyNoPlace", "(II)I"⟩, 53)]
theorem lw_r6 : ∀ q ∈ lw_privs_6, lw_okq q := List.forall_mem_cons.mpr ⟨lw_p80, fun _ h => absurd h List.not_mem_nil⟩
def lw_privs : List (MethodName × Nat) := lw_privs_1 ++ (lw_privs_2 ++ (lw_privs_3 ++ (lw_privs_4 ++ (lw_privs_5 ++ (lw_privs_6)))))
def lw_tbl : List Cond := k2_sels lw_privs ++ tables_1
theorem lw_privs_ok : ∀ q ∈ lw_privs, lw_okq q := by
  show ∀ q ∈ lw_privs_1 ++ (lw_privs_2 ++ (lw_privs_3 ++ (lw_privs_4 ++ (lw_privs_5 ++ (lw_privs_6))))), lw_okq q
  exact List.forall_mem_append.mpr ⟨lw_r1, List.forall_mem_append.mpr ⟨lw_r2, List.forall_mem_append.mpr ⟨lw_r3, List.forall_mem_append.mpr ⟨lw_r4, List.forall_mem_append.mpr ⟨lw_r5, lw_r6⟩⟩⟩⟩⟩
theorem goodIn_r {big : List Cond} (ws : List Cond) (ps : List Nat) (hp : ws = ps.filterMap (fun i => big[i]?)) (h : ws.all goodWord = true) : GoodIn big ws := by
  intro w hw
  have h1 := List.all_eq_true.mp h w hw
  rw [hp] at hw
  obtain ⟨i, -, hi⟩ := List.mem_filterMap.mp hw
  have hm : w ∈ big := by first | exact List.mem_of_getElem? hi | exact List.getElem?_mem hi
  exact ⟨hm, good_of_word h1⟩
theorem goodIn_app {big a b : List Cond} (ha : GoodIn big a) (hb : GoodIn big b) : GoodIn big (a ++ b) := fun w h => (List.mem_append.mp h).elim (ha w) (hb w)
theorem goodIn_ca {big a b : List Cond} {c : Cond} (ha : GoodIn big (c :: a)) (hb : GoodIn big b) : GoodIn big (c :: (a ++ b)) := fun w h => (List.mem_cons.mp h).elim (fun e => ha w (List.mem_cons.mpr (Or.inl e))) (fun h => (List.mem_append.mp h).elim (fun h => ha w (List.mem_cons.mpr (Or.inr h))) (hb w))
theorem goodIn_sub {big ws : List Cond} (hm : ∀ w ∈ ws, w ∈ big) (h : ws.all goodWord = true) : GoodIn big ws := fun w hw => ⟨hm w hw, good_of_word (List.all_eq_true.mp h w hw)⟩
def RX0 : String := "BackHouse$Acts"
def TX0 : u_T := fun k => match k with
  | 0 => ("BackHouse$Acts", "kinds", "[I", true)
  | 1 => ("BackHouse$Acts", "traced", "[I", true)
  | 2 => ("BackHouse$Acts", "bodies", "I", false)
  | _ => ("BackHouse$Acts", "ran", "I", false)
def tyX0 : Nat → FieldType := fun k => match k with
  | 0 => .array .int
  | 1 => .array .int
  | 2 => .int
  | _ => .int
abbrev wsX00 : List Cond := u_ws RX0 TX0 4
theorem nmX0 : ∀ a, a < 4 → ∀ b, b < 4 → a ≠ b → (TX0 a).2.1 ≠ (TX0 b).2.1 := by decide +kernel
theorem tyX0_ok : ∀ k, k < 4 → parseFieldDescriptor (TX0 k).2.2.1 = some (tyX0 k) := by decide +kernel
abbrev cX0_init : ByteArray := prog_2_method_1_code
def yX0_init : MethodName := ⟨RX0, "<init>", "()V"⟩
abbrev cX0_add : ByteArray := prog_2_method_2_code
def yX0_add : MethodName := ⟨RX0, "add", "(I)I"⟩
abbrev cX0_has : ByteArray := prog_2_method_3_code
def yX0_has : MethodName := ⟨RX0, "has", "(I)Z"⟩
abbrev cX0_kindOf : ByteArray := prog_2_method_4_code
def yX0_kindOf : MethodName := ⟨RX0, "kindOf", "(I)I"⟩
abbrev cX0_isUnder : ByteArray := prog_2_method_5_code
def yX0_isUnder : MethodName := ⟨RX0, "isUnder", "(II)Z"⟩
abbrev cX0_aboveOf : ByteArray := prog_2_method_6_code
def yX0_aboveOf : MethodName := ⟨RX0, "aboveOf", "(I)I"⟩
abbrev cX0_ownBody : ByteArray := prog_2_method_7_code
def yX0_ownBody : MethodName := ⟨RX0, "ownBody", "(II)I"⟩
abbrev cX0_nearest : ByteArray := prog_2_method_8_code
def yX0_nearest : MethodName := ⟨RX0, "nearest", "(II)I"⟩
abbrev cX0_note : ByteArray := prog_2_method_9_code
def yX0_note : MethodName := ⟨RX0, "note", "(I)V"⟩
abbrev cX0_answer : ByteArray := prog_2_method_10_code
def yX0_answer : MethodName := ⟨RX0, "answer", "(III)I"⟩
abbrev cX0_perform : ByteArray := prog_2_method_11_code
def yX0_perform : MethodName := ⟨RX0, "perform", "(IIIII)I"⟩
def RX1 : String := "BackHouse$Changes"
def TX1 : u_T := fun k => match k with
  | 0 => ("BackHouse$Changes", "what", "[I", true)
  | 1 => ("BackHouse$Changes", "number", "[I", true)
  | 2 => ("BackHouse$Changes", "before", "[I", true)
  | 3 => ("BackHouse$Changes", "after", "[I", true)
  | 4 => ("BackHouse$Changes", "done", "I", false)
  | _ => ("BackHouse$Changes", "kept", "I", false)
def tyX1 : Nat → FieldType := fun k => match k with
  | 0 => .array .int
  | 1 => .array .int
  | 2 => .array .int
  | 3 => .array .int
  | 4 => .int
  | _ => .int
abbrev wsX10 : List Cond := u_ws RX1 TX1 6
theorem nmX1 : ∀ a, a < 6 → ∀ b, b < 6 → a ≠ b → (TX1 a).2.1 ≠ (TX1 b).2.1 := by decide +kernel
theorem tyX1_ok : ∀ k, k < 6 → parseFieldDescriptor (TX1 k).2.2.1 = some (tyX1 k) := by decide +kernel
abbrev cX1_init : ByteArray := prog_3_method_1_code
def yX1_init : MethodName := ⟨RX1, "<init>", "()V"⟩
abbrev cX1_note : ByteArray := prog_3_method_2_code
def yX1_note : MethodName := ⟨RX1, "note", "(IIII)V"⟩
abbrev cX1_forgetOldest : ByteArray := prog_3_method_3_code
def yX1_forgetOldest : MethodName := ⟨RX1, "forgetOldest", "()V"⟩
abbrev cX1_undoIn : ByteArray := prog_3_method_4_code
def yX1_undoIn : MethodName := ⟨RX1, "undoIn", "(LBackHouse$World;)Z"⟩
abbrev cX1_redoIn : ByteArray := prog_3_method_5_code
def yX1_redoIn : MethodName := ⟨RX1, "redoIn", "(LBackHouse$World;)Z"⟩
def RX2 : String := "BackHouse$Draw"
def TX2 : u_T := fun k => match k with
  | _ => ("BackHouse$Draw", "last", "I", false)
def tyX2 : Nat → FieldType := fun k => match k with
  | _ => .int
abbrev wsX20 : List Cond := u_ws RX2 TX2 1
theorem nmX2 : ∀ a, a < 1 → ∀ b, b < 1 → a ≠ b → (TX2 a).2.1 ≠ (TX2 b).2.1 := by decide +kernel
theorem tyX2_ok : ∀ k, k < 1 → parseFieldDescriptor (TX2 k).2.2.1 = some (tyX2 k) := by decide +kernel
abbrev cX2_init : ByteArray := prog_4_method_1_code
def yX2_init : MethodName := ⟨RX2, "<init>", "()V"⟩
abbrev cX2_forgottenOf : ByteArray := prog_4_method_2_code
def yX2_forgottenOf : MethodName := ⟨RX2, "forgottenOf", "(LBackHouse$World;)I"⟩
def RX3 : String := "BackHouse$Drive"
def TX3 : u_T := fun k => match k with
  | 0 => ("BackHouse$Drive", "world", "LBackHouse$World;", true)
  | 1 => ("BackHouse$Drive", "goer", "[I", true)
  | 2 => ("BackHouse$Drive", "fetched", "[I", true)
  | 3 => ("BackHouse$Drive", "took", "[I", true)
  | 4 => ("BackHouse$Drive", "isOn", "Z", false)
  | 5 => ("BackHouse$Drive", "stop", "I", false)
  | 6 => ("BackHouse$Drive", "forgotten", "I", false)
  | 7 => ("BackHouse$Drive", "had", "I", false)
  | 8 => ("BackHouse$Drive", "left", "I", false)
  | 9 => ("BackHouse$Drive", "minutes", "I", false)
  | 10 => ("BackHouse$Drive", "goings", "I", false)
  | 11 => ("BackHouse$Drive", "turns", "I", false)
  | _ => ("BackHouse$Drive", "lastTurn", "I", false)
def tyX3 : Nat → FieldType := fun k => match k with
  | 0 => .object "BackHouse$World"
  | 1 => .array .int
  | 2 => .array .int
  | 3 => .array .int
  | 4 => .boolean
  | 5 => .int
  | 6 => .int
  | 7 => .int
  | 8 => .int
  | 9 => .int
  | 10 => .int
  | 11 => .int
  | _ => .int
abbrev wsX30 : List Cond := u_ws RX3 TX3 13
theorem nmX3 : ∀ a, a < 13 → ∀ b, b < 13 → a ≠ b → (TX3 a).2.1 ≠ (TX3 b).2.1 := by decide +kernel
theorem tyX3_ok : ∀ k, k < 13 → parseFieldDescriptor (TX3 k).2.2.1 = some (tyX3 k) := by decide +kernel
abbrev cX3_init : ByteArray := prog_5_method_1_code
def yX3_init : MethodName := ⟨RX3, "<init>", "(LBackHouse$World;)V"⟩
abbrev cX3_wholeWith : ByteArray := prog_5_method_2_code
def yX3_wholeWith : MethodName := ⟨RX3, "wholeWith", "(I)V"⟩
abbrev cX3_beginWith : ByteArray := prog_5_method_3_code
def yX3_beginWith : MethodName := ⟨RX3, "beginWith", "(I)V"⟩
abbrev cX3_driveOn : ByteArray := prog_5_method_4_code
def yX3_driveOn : MethodName := ⟨RX3, "driveOn", "()V"⟩
abbrev cX3_cost : ByteArray := prog_5_method_5_code
def yX3_cost : MethodName := ⟨RX3, "cost", "()I"⟩
abbrev cX3_mindedHere : ByteArray := prog_5_method_6_code
def yX3_mindedHere : MethodName := ⟨RX3, "mindedHere", "()I"⟩
abbrev cX3_open : ByteArray := prog_5_method_7_code
def yX3_open : MethodName := ⟨RX3, "open", "()I"⟩
abbrev cX3_goFor : ByteArray := prog_5_method_8_code
def yX3_goFor : MethodName := ⟨RX3, "goFor", "(I)V"⟩
abbrev cX3_leastOf : ByteArray := prog_5_method_9_code
def yX3_leastOf : MethodName := ⟨RX3, "leastOf", "(I)I"⟩
abbrev cX3_noteGoing : ByteArray := prog_5_method_10_code
def yX3_noteGoing : MethodName := ⟨RX3, "noteGoing", "(III)V"⟩
abbrev cX3_becomeLike : ByteArray := prog_5_method_11_code
def yX3_becomeLike : MethodName := ⟨RX3, "becomeLike", "(LBackHouse$Drive;)V"⟩
def RX4 : String := "BackHouse$Journey"
def TX4 : u_T := fun k => match k with
  | 0 => ("BackHouse$Journey", "drive", "LBackHouse$Drive;", true)
  | 1 => ("BackHouse$Journey", "imageDrive", "LBackHouse$Drive;", true)
  | 2 => ("BackHouse$Journey", "overs", "I", false)
  | 3 => ("BackHouse$Journey", "costs", "I", false)
  | 4 => ("BackHouse$Journey", "imageOvers", "I", false)
  | 5 => ("BackHouse$Journey", "imageCosts", "I", false)
  | _ => ("BackHouse$Journey", "hasImage", "Z", false)
def tyX4 : Nat → FieldType := fun k => match k with
  | 0 => .object "BackHouse$Drive"
  | 1 => .object "BackHouse$Drive"
  | 2 => .int
  | 3 => .int
  | 4 => .int
  | 5 => .int
  | _ => .boolean
abbrev wsX40 : List Cond := u_ws RX4 TX4 7
theorem nmX4 : ∀ a, a < 7 → ∀ b, b < 7 → a ≠ b → (TX4 a).2.1 ≠ (TX4 b).2.1 := by decide +kernel
theorem tyX4_ok : ∀ k, k < 7 → parseFieldDescriptor (TX4 k).2.2.1 = some (tyX4 k) := by decide +kernel
abbrev cX4_init : ByteArray := prog_6_method_1_code
def yX4_init : MethodName := ⟨RX4, "<init>", "(LBackHouse$World;)V"⟩
abbrev cX4_keepImage : ByteArray := prog_6_method_2_code
def yX4_keepImage : MethodName := ⟨RX4, "keepImage", "()V"⟩
abbrev cX4_layBack : ByteArray := prog_6_method_3_code
def yX4_layBack : MethodName := ⟨RX4, "layBack", "()V"⟩
def RX5 : String := "BackHouse$Law"
def TX5 : u_T := fun k => match k with
  | 0 => ("BackHouse$Law", "operations", "[I", true)
  | 1 => ("BackHouse$Law", "numbers", "[I", true)
  | 2 => ("BackHouse$Law", "stack", "[I", true)
  | 3 => ("BackHouse$Law", "names", "[I", true)
  | _ => ("BackHouse$Law", "size", "I", false)
def tyX5 : Nat → FieldType := fun k => match k with
  | 0 => .array .int
  | 1 => .array .int
  | 2 => .array .int
  | 3 => .array .int
  | _ => .int
abbrev wsX50 : List Cond := u_ws RX5 TX5 5
theorem nmX5 : ∀ a, a < 5 → ∀ b, b < 5 → a ≠ b → (TX5 a).2.1 ≠ (TX5 b).2.1 := by decide +kernel
theorem tyX5_ok : ∀ k, k < 5 → parseFieldDescriptor (TX5 k).2.2.1 = some (tyX5 k) := by decide +kernel
abbrev cX5_init : ByteArray := prog_7_method_1_code
def yX5_init : MethodName := ⟨RX5, "<init>", "()V"⟩
abbrev cX5_adopt : ByteArray := prog_7_method_2_code
def yX5_adopt : MethodName := ⟨RX5, "adopt", "([I[II)V"⟩
abbrev cX5_minutes : ByteArray := prog_7_method_3_code
def yX5_minutes : MethodName := ⟨RX5, "minutes", "(IIIII)I"⟩
abbrev cX5_firstThatCounts : ByteArray := prog_7_method_4_code
def yX5_firstThatCounts : MethodName := ⟨RX5, "firstThatCounts", "()I"⟩
abbrev cX5_named : ByteArray := prog_7_method_5_code
def yX5_named : MethodName := ⟨RX5, "named", "(I)I"⟩
abbrev cX5_together : ByteArray := prog_7_method_6_code
def yX5_together : MethodName := ⟨RX5, "together", "(III)I"⟩
abbrev cX5_held : ByteArray := prog_7_method_7_code
def yX5_held : MethodName := ⟨RX5, "held", "(I)I"⟩
def RX6 : String := "BackHouse$Reader"
def TX6 : u_T := fun k => match k with
  | 0 => ("BackHouse$Reader", "tape", "[I", true)
  | 1 => ("BackHouse$Reader", "operations", "[I", true)
  | 2 => ("BackHouse$Reader", "numbers", "[I", true)
  | 3 => ("BackHouse$Reader", "length", "I", false)
  | 4 => ("BackHouse$Reader", "size", "I", false)
  | 5 => ("BackHouse$Reader", "at", "I", false)
  | _ => ("BackHouse$Reader", "fault", "I", false)
def tyX6 : Nat → FieldType := fun k => match k with
  | 0 => .array .int
  | 1 => .array .int
  | 2 => .array .int
  | 3 => .int
  | 4 => .int
  | 5 => .int
  | _ => .int
abbrev wsX60 : List Cond := u_ws RX6 TX6 7
theorem nmX6 : ∀ a, a < 7 → ∀ b, b < 7 → a ≠ b → (TX6 a).2.1 ≠ (TX6 b).2.1 := by decide +kernel
theorem tyX6_ok : ∀ k, k < 7 → parseFieldDescriptor (TX6 k).2.2.1 = some (tyX6 k) := by decide +kernel
abbrev cX6_init : ByteArray := prog_8_method_1_code
def yX6_init : MethodName := ⟨RX6, "<init>", "()V"⟩
abbrev cX6_take : ByteArray := prog_8_method_2_code
def yX6_take : MethodName := ⟨RX6, "take", "(I)I"⟩
abbrev cX6_read : ByteArray := prog_8_method_3_code
def yX6_read : MethodName := ⟨RX6, "read", "()I"⟩
abbrev cX6_line : ByteArray := prog_8_method_4_code
def yX6_line : MethodName := ⟨RX6, "line", "()V"⟩
abbrev cX6_either : ByteArray := prog_8_method_5_code
def yX6_either : MethodName := ⟨RX6, "either", "(I)V"⟩
abbrev cX6_both : ByteArray := prog_8_method_6_code
def yX6_both : MethodName := ⟨RX6, "both", "(I)V"⟩
abbrev cX6_compared : ByteArray := prog_8_method_7_code
def yX6_compared : MethodName := ⟨RX6, "compared", "(I)V"⟩
abbrev cX6_sum : ByteArray := prog_8_method_8_code
def yX6_sum : MethodName := ⟨RX6, "sum", "(I)V"⟩
abbrev cX6_product : ByteArray := prog_8_method_9_code
def yX6_product : MethodName := ⟨RX6, "product", "(I)V"⟩
abbrev cX6_operand : ByteArray := prog_8_method_10_code
def yX6_operand : MethodName := ⟨RX6, "operand", "(I)V"⟩
abbrev cX6_number : ByteArray := prog_8_method_11_code
def yX6_number : MethodName := ⟨RX6, "number", "()V"⟩
abbrev cX6_letter : ByteArray := prog_8_method_12_code
def yX6_letter : MethodName := ⟨RX6, "letter", "()I"⟩
abbrev cX6_accepts : ByteArray := prog_8_method_13_code
def yX6_accepts : MethodName := ⟨RX6, "accepts", "(I)Z"⟩
abbrev cX6_isDigit : ByteArray := prog_8_method_14_code
def yX6_isDigit : MethodName := ⟨RX6, "isDigit", "(I)Z"⟩
abbrev cX6_nameOf : ByteArray := prog_8_method_15_code
def yX6_nameOf : MethodName := ⟨RX6, "nameOf", "(I)I"⟩
abbrev cX6_refuse : ByteArray := prog_8_method_16_code
def yX6_refuse : MethodName := ⟨RX6, "refuse", "()V"⟩
abbrev cX6_emit : ByteArray := prog_8_method_17_code
def yX6_emit : MethodName := ⟨RX6, "emit", "(II)V"⟩
def RX7 : String := "BackHouse$Shelf"
def TX7 : u_T := fun k => match k with
  | 0 => ("BackHouse$Shelf", "elements", "[J", true)
  | 1 => ("BackHouse$Shelf", "holds", "I", false)
  | 2 => ("BackHouse$Shelf", "bodyHeld", "I", false)
  | 3 => ("BackHouse$Shelf", "sort", "I", false)
  | _ => ("BackHouse$Shelf", "size", "I", false)
def tyX7 : Nat → FieldType := fun k => match k with
  | 0 => .array .long
  | 1 => .int
  | 2 => .int
  | 3 => .int
  | _ => .int
abbrev wsX70 : List Cond := u_ws RX7 TX7 5
theorem nmX7 : ∀ a, a < 5 → ∀ b, b < 5 → a ≠ b → (TX7 a).2.1 ≠ (TX7 b).2.1 := by decide +kernel
theorem tyX7_ok : ∀ k, k < 5 → parseFieldDescriptor (TX7 k).2.2.1 = some (tyX7 k) := by decide +kernel
abbrev cX7_init : ByteArray := prog_9_method_1_code
def yX7_init : MethodName := ⟨RX7, "<init>", "()V"⟩
abbrev cX7_becomeRow : ByteArray := prog_9_method_2_code
def yX7_becomeRow : MethodName := ⟨RX7, "becomeRow", "(II)V"⟩
abbrev cX7_holdsBytes : ByteArray := prog_9_method_3_code
def yX7_holdsBytes : MethodName := ⟨RX7, "holdsBytes", "()Z"⟩
abbrev cX7_refusalOfBytes : ByteArray := prog_9_method_4_code
def yX7_refusalOfBytes : MethodName := ⟨RX7, "refusalOfBytes", "()I"⟩
abbrev cX7_refusalOfPlace : ByteArray := prog_9_method_5_code
def yX7_refusalOfPlace : MethodName := ⟨RX7, "refusalOfPlace", "(I)I"⟩
abbrev cX7_hasPlaces : ByteArray := prog_9_method_6_code
def yX7_hasPlaces : MethodName := ⟨RX7, "hasPlaces", "(II)Z"⟩
abbrev cX7_elementAt : ByteArray := prog_9_method_7_code
def yX7_elementAt : MethodName := ⟨RX7, "elementAt", "(I)J"⟩
abbrev cX7_store : ByteArray := prog_9_method_8_code
def yX7_store : MethodName := ⟨RX7, "store", "(IJ)V"⟩
abbrev cX7_lowestBits : ByteArray := prog_9_method_9_code
def yX7_lowestBits : MethodName := ⟨RX7, "lowestBits", "(J)J"⟩
def RX8 : String := "BackHouse$Table"
def TX8 : u_T := fun k => match k with
  | 0 => ("BackHouse$Table", "world", "LBackHouse$World;", true)
  | 1 => ("BackHouse$Table", "drive", "LBackHouse$Drive;", true)
  | 2 => ("BackHouse$Table", "cost", "[I", true)
  | 3 => ("BackHouse$Table", "left", "[I", true)
  | 4 => ("BackHouse$Table", "goings", "[I", true)
  | 5 => ("BackHouse$Table", "weight", "[J", true)
  | 6 => ("BackHouse$Table", "below", "J", false)
  | _ => ("BackHouse$Table", "edition", "I", false)
def tyX8 : Nat → FieldType := fun k => match k with
  | 0 => .object "BackHouse$World"
  | 1 => .object "BackHouse$Drive"
  | 2 => .array .int
  | 3 => .array .int
  | 4 => .array .int
  | 5 => .array .long
  | 6 => .long
  | _ => .int
abbrev wsX80 : List Cond := u_ws RX8 TX8 8
theorem nmX8 : ∀ a, a < 8 → ∀ b, b < 8 → a ≠ b → (TX8 a).2.1 ≠ (TX8 b).2.1 := by decide +kernel
theorem tyX8_ok : ∀ k, k < 8 → parseFieldDescriptor (TX8 k).2.2.1 = some (tyX8 k) := by decide +kernel
abbrev cX8_init : ByteArray := prog_10_method_1_code
def yX8_init : MethodName := ⟨RX8, "<init>", "(LBackHouse$World;)V"⟩
abbrev cX8_refresh : ByteArray := prog_10_method_2_code
def yX8_refresh : MethodName := ⟨RX8, "refresh", "()V"⟩
abbrev cX8_weigh : ByteArray := prog_10_method_3_code
def yX8_weigh : MethodName := ⟨RX8, "weigh", "(II)V"⟩
abbrev cX8_part : ByteArray := prog_10_method_4_code
def yX8_part : MethodName := ⟨RX8, "part", "(IJJ)V"⟩
abbrev cX8_costs : ByteArray := prog_10_method_5_code
def yX8_costs : MethodName := ⟨RX8, "costs", "()J"⟩
abbrev cX8_waysWithoutGoing : ByteArray := prog_10_method_6_code
def yX8_waysWithoutGoing : MethodName := ⟨RX8, "waysWithoutGoing", "()J"⟩
abbrev cX8_waysWithLeft : ByteArray := prog_10_method_7_code
def yX8_waysWithLeft : MethodName := ⟨RX8, "waysWithLeft", "(I)J"⟩
abbrev cX8_inLowestTerms : ByteArray := prog_10_method_8_code
def yX8_inLowestTerms : MethodName := ⟨RX8, "inLowestTerms", "(JI)J"⟩
abbrev cX8_bestDoorstep : ByteArray := prog_10_method_9_code
def yX8_bestDoorstep : MethodName := ⟨RX8, "bestDoorstep", "()I"⟩
abbrev cX8_bestList : ByteArray := prog_10_method_10_code
def yX8_bestList : MethodName := ⟨RX8, "bestList", "(I)I"⟩
abbrev cX8_dearest : ByteArray := prog_10_method_11_code
def yX8_dearest : MethodName := ⟨RX8, "dearest", "()I"⟩
abbrev cX8_costOf : ByteArray := prog_10_method_12_code
def yX8_costOf : MethodName := ⟨RX8, "costOf", "(I)I"⟩
def RX9 : String := "BackHouse$World"
def TX9 : u_T := fun k => match k with
  | 0 => ("BackHouse$World", "numbers", "[[I", true)
  | 1 => ("BackHouse$World", "law", "LBackHouse$Law;", true)
  | 2 => ("BackHouse$World", "things", "I", false)
  | _ => ("BackHouse$World", "edition", "I", false)
def tyX9 : Nat → FieldType := fun k => match k with
  | 0 => .array (.array .int)
  | 1 => .object "BackHouse$Law"
  | 2 => .int
  | _ => .int
abbrev wsX90 : List Cond := u_ws RX9 TX9 4
theorem nmX9 : ∀ a, a < 4 → ∀ b, b < 4 → a ≠ b → (TX9 a).2.1 ≠ (TX9 b).2.1 := by decide +kernel
theorem tyX9_ok : ∀ k, k < 4 → parseFieldDescriptor (TX9 k).2.2.1 = some (tyX9 k) := by decide +kernel
abbrev cX9_init : ByteArray := prog_11_method_1_code
def yX9_init : MethodName := ⟨RX9, "<init>", "()V"⟩
abbrev cX9_may : ByteArray := prog_11_method_2_code
def yX9_may : MethodName := ⟨RX9, "may", "(II)Z"⟩
abbrev cX9_has : ByteArray := prog_11_method_3_code
def yX9_has : MethodName := ⟨RX9, "has", "(II)Z"⟩
abbrev cX9_value : ByteArray := prog_11_method_4_code
def yX9_value : MethodName := ⟨RX9, "value", "(II)I"⟩
abbrev cX9_become : ByteArray := prog_11_method_5_code
def yX9_become : MethodName := ⟨RX9, "become", "(III)V"⟩
abbrev cX9_add : ByteArray := prog_11_method_6_code
def yX9_add : MethodName := ⟨RX9, "add", "(IIII)I"⟩
abbrev cX9_obey : ByteArray := prog_11_method_7_code
def yX9_obey : MethodName := ⟨RX9, "obey", "(LBackHouse$Reader;)V"⟩
abbrev cX9_sets : ByteArray := prog_11_method_8_code
def yX9_sets : MethodName := ⟨RX9, "sets", "()I"⟩
abbrev cX9_knows : ByteArray := prog_11_method_9_code
def yX9_knows : MethodName := ⟨RX9, "knows", "(I)Z"⟩
abbrev cX9_worthOf : ByteArray := prog_11_method_10_code
def yX9_worthOf : MethodName := ⟨RX9, "worthOf", "(I)I"⟩
abbrev cX9_minutesTo : ByteArray := prog_11_method_11_code
def yX9_minutesTo : MethodName := ⟨RX9, "minutesTo", "(I)I"⟩
abbrev cX9_minutesAloud : ByteArray := prog_11_method_12_code
def yX9_minutesAloud : MethodName := ⟨RX9, "minutesAloud", "(II)I"⟩
abbrev cX9_broughtBy : ByteArray := prog_11_method_13_code
def yX9_broughtBy : MethodName := ⟨RX9, "broughtBy", "(I)I"⟩
def RX10 : String := "BackHouse"
def TX10 : u_T := fun k => match k with
  | 0 => ("BackHouse", "world", "LBackHouse$World;", true)
  | 1 => ("BackHouse", "changes", "LBackHouse$Changes;", true)
  | 2 => ("BackHouse", "reader", "LBackHouse$Reader;", true)
  | 3 => ("BackHouse", "thought", "LBackHouse$Drive;", true)
  | 4 => ("BackHouse", "table", "LBackHouse$Table;", true)
  | 5 => ("BackHouse", "draw", "LBackHouse$Draw;", true)
  | 6 => ("BackHouse", "journey", "LBackHouse$Journey;", true)
  | 7 => ("BackHouse", "acts", "LBackHouse$Acts;", true)
  | _ => ("BackHouse", "shelves", "[LBackHouse$Shelf;", true)
def tyX10 : Nat → FieldType := fun k => match k with
  | 0 => .object "BackHouse$World"
  | 1 => .object "BackHouse$Changes"
  | 2 => .object "BackHouse$Reader"
  | 3 => .object "BackHouse$Drive"
  | 4 => .object "BackHouse$Table"
  | 5 => .object "BackHouse$Draw"
  | 6 => .object "BackHouse$Journey"
  | 7 => .object "BackHouse$Acts"
  | _ => .array (.object "BackHouse$Shelf")
abbrev wsX100 : List Cond := u_ws RX10 TX10 9
theorem nmX10 : ∀ a, a < 9 → ∀ b, b < 9 → a ≠ b → (TX10 a).2.1 ≠ (TX10 b).2.1 := by decide +kernel
theorem tyX10_ok : ∀ k, k < 9 → parseFieldDescriptor (TX10 k).2.2.1 = some (tyX10 k) := by decide +kernel
abbrev cX10_init : ByteArray := prog_1_method_1_code
def yX10_init : MethodName := ⟨RX10, "<init>", "()V"⟩
abbrev cX10_thing : ByteArray := prog_1_method_2_code
def yX10_thing : MethodName := ⟨RX10, "thing", "(II)I"⟩
abbrev cX10_things : ByteArray := prog_1_method_3_code
def yX10_things : MethodName := ⟨RX10, "things", "(III)I"⟩
abbrev cX10_mend : ByteArray := prog_1_method_4_code
def yX10_mend : MethodName := ⟨RX10, "mend", "(III)I"⟩
abbrev cX10_of : ByteArray := prog_1_method_5_code
def yX10_of : MethodName := ⟨RX10, "of", "(II)I"⟩
abbrev cX10_feed : ByteArray := prog_1_method_6_code
def yX10_feed : MethodName := ⟨RX10, "feed", "(I)I"⟩
abbrev cX10_law : ByteArray := prog_1_method_7_code
def yX10_law : MethodName := ⟨RX10, "law", "()I"⟩
abbrev cX10_drive : ByteArray := prog_1_method_8_code
def yX10_drive : MethodName := ⟨RX10, "drive", "(II)I"⟩
abbrev cX10_going : ByteArray := prog_1_method_9_code
def yX10_going : MethodName := ⟨RX10, "going", "(III)I"⟩
abbrev cX10_mean : ByteArray := prog_1_method_10_code
def yX10_mean : MethodName := ⟨RX10, "mean", "(I)J"⟩
abbrev cX10_likely : ByteArray := prog_1_method_11_code
def yX10_likely : MethodName := ⟨RX10, "likely", "(II)J"⟩
abbrev cX10_aloud : ByteArray := prog_1_method_12_code
def yX10_aloud : MethodName := ⟨RX10, "aloud", "(II)I"⟩
abbrev cX10_who : ByteArray := prog_1_method_13_code
def yX10_who : MethodName := ⟨RX10, "who", "(I)I"⟩
abbrev cX10_doorstep : ByteArray := prog_1_method_14_code
def yX10_doorstep : MethodName := ⟨RX10, "doorstep", "(I)J"⟩
abbrev cX10_list : ByteArray := prog_1_method_15_code
def yX10_list : MethodName := ⟨RX10, "list", "(II)J"⟩
abbrev cX10_onWith : ByteArray := prog_1_method_16_code
def yX10_onWith : MethodName := ⟨RX10, "onWith", "(I)I"⟩
abbrev cX10_judge : ByteArray := prog_1_method_17_code
def yX10_judge : MethodName := ⟨RX10, "judge", "(II)I"⟩
abbrev cX10_which : ByteArray := prog_1_method_18_code
def yX10_which : MethodName := ⟨RX10, "which", "(II)I"⟩
abbrev cX10_first : ByteArray := prog_1_method_19_code
def yX10_first : MethodName := ⟨RX10, "first", "(I)I"⟩
abbrev cX10_chain : ByteArray := prog_1_method_20_code
def yX10_chain : MethodName := ⟨RX10, "chain", "(I)I"⟩
abbrev cX10_drawn : ByteArray := prog_1_method_21_code
def yX10_drawn : MethodName := ⟨RX10, "drawn", "(III)I"⟩
abbrev cX10_lock : ByteArray := prog_1_method_22_code
def yX10_lock : MethodName := ⟨RX10, "lock", "(I)I"⟩
abbrev cX10_on : ByteArray := prog_1_method_23_code
def yX10_on : MethodName := ⟨RX10, "on", "()I"⟩
abbrev cX10_led : ByteArray := prog_1_method_24_code
def yX10_led : MethodName := ⟨RX10, "led", "(I)I"⟩
abbrev cX10_image : ByteArray := prog_1_method_25_code
def yX10_image : MethodName := ⟨RX10, "image", "()I"⟩
abbrev cX10_back : ByteArray := prog_1_method_26_code
def yX10_back : MethodName := ⟨RX10, "back", "()I"⟩
abbrev cX10_undo : ByteArray := prog_1_method_27_code
def yX10_undo : MethodName := ⟨RX10, "undo", "()I"⟩
abbrev cX10_redo : ByteArray := prog_1_method_28_code
def yX10_redo : MethodName := ⟨RX10, "redo", "()I"⟩
abbrev cX10_body : ByteArray := prog_1_method_29_code
def yX10_body : MethodName := ⟨RX10, "body", "(I)I"⟩
abbrev cX10_act : ByteArray := prog_1_method_30_code
def yX10_act : MethodName := ⟨RX10, "act", "(III)I"⟩
abbrev cX10_trace : ByteArray := prog_1_method_31_code
def yX10_trace : MethodName := ⟨RX10, "trace", "(I)I"⟩
abbrev cX10_keep : ByteArray := prog_1_method_32_code
def yX10_keep : MethodName := ⟨RX10, "keep", "(II)I"⟩
abbrev cX10_row : ByteArray := prog_1_method_33_code
def yX10_row : MethodName := ⟨RX10, "row", "(III)I"⟩
abbrev cX10_put : ByteArray := prog_1_method_34_code
def yX10_put : MethodName := ⟨RX10, "put", "(IIJ)I"⟩
abbrev cX10_element : ByteArray := prog_1_method_35_code
def yX10_element : MethodName := ⟨RX10, "element", "(II)J"⟩
abbrev cX10_shift : ByteArray := prog_1_method_36_code
def yX10_shift : MethodName := ⟨RX10, "shift", "(IIIII)I"⟩
abbrev cX10_taken : ByteArray := prog_1_method_37_code
def yX10_taken : MethodName := ⟨RX10, "taken", "(II)I"⟩
abbrev cX10_count : ByteArray := prog_1_method_38_code
def yX10_count : MethodName := ⟨RX10, "count", "(I)I"⟩
abbrev cX10_shelfAt : ByteArray := prog_1_method_39_code
def yX10_shelfAt : MethodName := ⟨RX10, "shelfAt", "(I)LBackHouse$Shelf;"⟩
abbrev cX10_thingCame : ByteArray := prog_1_method_40_code
def yX10_thingCame : MethodName := ⟨RX10, "thingCame", "(LBackHouse$Shelf;I)Z"⟩
abbrev cX10_firstUntrue : ByteArray := prog_1_method_41_code
def yX10_firstUntrue : MethodName := ⟨RX10, "firstUntrue", "(LBackHouse$Shelf;LBackHouse$Drive;)I"⟩
def RX11 : String := "BackHouseModel"
def TX11 : u_T := fun k => match k with
  | 0 => ("BackHouseModel", "code", "I", false)
  | 1 => ("BackHouseModel", "things", "I", false)
  | 2 => ("BackHouseModel", "whose", "[I", true)
  | 3 => ("BackHouseModel", "chance", "[I", true)
  | 4 => ("BackHouseModel", "stop", "[I", true)
  | 5 => ("BackHouseModel", "worth1", "[I", true)
  | 6 => ("BackHouseModel", "setsOff", "[I", true)
  | 7 => ("BackHouseModel", "pace", "[I", true)
  | 8 => ("BackHouseModel", "way", "[I", true)
  | 9 => ("BackHouseModel", "price", "I", false)
  | 10 => ("BackHouseModel", "doneMany", "I", false)
  | 11 => ("BackHouseModel", "undoneMany", "I", false)
  | 12 => ("BackHouseModel", "changeOf", "[I", true)
  | 13 => ("BackHouseModel", "changeAt", "[I", true)
  | 14 => ("BackHouseModel", "before", "[I", true)
  | 15 => ("BackHouseModel", "behind", "[I", true)
  | 16 => ("BackHouseModel", "tape", "[B", true)
  | 17 => ("BackHouseModel", "taped", "I", false)
  | 18 => ("BackHouseModel", "here", "I", false)
  | 19 => ("BackHouseModel", "fault", "I", false)
  | 20 => ("BackHouseModel", "open", "I", false)
  | 21 => ("BackHouseModel", "laid", "I", false)
  | 22 => ("BackHouseModel", "act", "[B", true)
  | 23 => ("BackHouseModel", "with", "[I", true)
  | 24 => ("BackHouseModel", "lineMany", "[I", true)
  | 25 => ("BackHouseModel", "testEnd", "[S", true)
  | 26 => ("BackHouseModel", "lineEnd", "[S", true)
  | 27 => ("BackHouseModel", "facts", "[I", true)
  | 28 => ("BackHouseModel", "pile", "[I", true)
  | 29 => ("BackHouseModel", "hasLaw", "Z", false)
  | 30 => ("BackHouseModel", "forgotten", "I", false)
  | 31 => ("BackHouseModel", "had", "I", false)
  | 32 => ("BackHouseModel", "leftAll", "I", false)
  | 33 => ("BackHouseModel", "minutes", "I", false)
  | 34 => ("BackHouseModel", "goings", "I", false)
  | 35 => ("BackHouseModel", "turns1", "I", false)
  | 36 => ("BackHouseModel", "lastTurn", "I", false)
  | 37 => ("BackHouseModel", "goingWho", "[I", true)
  | 38 => ("BackHouseModel", "goingThing", "[I", true)
  | 39 => ("BackHouseModel", "goingMinutes", "[I", true)
  | 40 => ("BackHouseModel", "costs", "[I", true)
  | 41 => ("BackHouseModel", "drawn1", "I", false)
  | 42 => ("BackHouseModel", "deed", "[I", true)
  | 43 => ("BackHouseModel", "kept", "[I", true)
  | 44 => ("BackHouseModel", "hasImage", "Z", false)
  | 45 => ("BackHouseModel", "bodies", "I", false)
  | 46 => ("BackHouseModel", "kind", "[I", true)
  | 47 => ("BackHouseModel", "traces", "I", false)
  | 48 => ("BackHouseModel", "traced", "[I", true)
  | 49 => ("BackHouseModel", "holds", "[I", true)
  | 50 => ("BackHouseModel", "size", "[I", true)
  | 51 => ("BackHouseModel", "elements", "[J", true)
  | _ => ("BackHouseModel", "shifted", "[J", true)
def tyX11 : Nat → FieldType := fun k => match k with
  | 0 => .int
  | 1 => .int
  | 2 => .array .int
  | 3 => .array .int
  | 4 => .array .int
  | 5 => .array .int
  | 6 => .array .int
  | 7 => .array .int
  | 8 => .array .int
  | 9 => .int
  | 10 => .int
  | 11 => .int
  | 12 => .array .int
  | 13 => .array .int
  | 14 => .array .int
  | 15 => .array .int
  | 16 => .array .byte
  | 17 => .int
  | 18 => .int
  | 19 => .int
  | 20 => .int
  | 21 => .int
  | 22 => .array .byte
  | 23 => .array .int
  | 24 => .array .int
  | 25 => .array .short
  | 26 => .array .short
  | 27 => .array .int
  | 28 => .array .int
  | 29 => .boolean
  | 30 => .int
  | 31 => .int
  | 32 => .int
  | 33 => .int
  | 34 => .int
  | 35 => .int
  | 36 => .int
  | 37 => .array .int
  | 38 => .array .int
  | 39 => .array .int
  | 40 => .array .int
  | 41 => .int
  | 42 => .array .int
  | 43 => .array .int
  | 44 => .boolean
  | 45 => .int
  | 46 => .array .int
  | 47 => .int
  | 48 => .array .int
  | 49 => .array .int
  | 50 => .array .int
  | 51 => .array .long
  | _ => .array .long
abbrev wsX110 : List Cond := u_ws RX11 TX11 53
theorem nmX11 : ∀ a, a < 53 → ∀ b, b < 53 → a ≠ b → (TX11 a).2.1 ≠ (TX11 b).2.1 := by decide +kernel
theorem tyX11_ok : ∀ k, k < 53 → parseFieldDescriptor (TX11 k).2.2.1 = some (tyX11 k) := by decide +kernel
abbrev cX11_init : ByteArray := prog_13_method_1_code
def yX11_init : MethodName := ⟨RX11, "<init>", "()V"⟩
abbrev cX11_in : ByteArray := prog_13_method_3_code
def yX11_in : MethodName := ⟨RX11, "in", "(III)Z"⟩
abbrev cX11_bitsOf : ByteArray := prog_13_method_4_code
def yX11_bitsOf : MethodName := ⟨RX11, "bitsOf", "(I)I"⟩
abbrev cX11_isThing : ByteArray := prog_13_method_5_code
def yX11_isThing : MethodName := ⟨RX11, "isThing", "(I)Z"⟩
abbrev cX11_addThing : ByteArray := prog_13_method_6_code
def yX11_addThing : MethodName := ⟨RX11, "addThing", "(IIII)I"⟩
abbrev cX11_isThingSo : ByteArray := prog_13_method_7_code
def yX11_isThingSo : MethodName := ⟨RX11, "isThingSo", "(III)Z"⟩
abbrev cX11_thing : ByteArray := prog_13_method_8_code
def yX11_thing : MethodName := ⟨RX11, "thing", "(II)I"⟩
abbrev cX11_things : ByteArray := prog_13_method_9_code
def yX11_things : MethodName := ⟨RX11, "things", "(III)I"⟩
abbrev cX11_valueAt : ByteArray := prog_13_method_10_code
def yX11_valueAt : MethodName := ⟨RX11, "valueAt", "(II)I"⟩
abbrev cX11_lays : ByteArray := prog_13_method_11_code
def yX11_lays : MethodName := ⟨RX11, "lays", "(III)V"⟩
abbrev cX11_changes : ByteArray := prog_13_method_12_code
def yX11_changes : MethodName := ⟨RX11, "changes", "(III)I"⟩
abbrev cX11_undo : ByteArray := prog_13_method_13_code
def yX11_undo : MethodName := ⟨RX11, "undo", "()I"⟩
abbrev cX11_redo : ByteArray := prog_13_method_14_code
def yX11_redo : MethodName := ⟨RX11, "redo", "()I"⟩
abbrev cX11_isOne : ByteArray := prog_13_method_15_code
def yX11_isOne : MethodName := ⟨RX11, "isOne", "(II)Z"⟩
abbrev cX11_mayBe : ByteArray := prog_13_method_16_code
def yX11_mayBe : MethodName := ⟨RX11, "mayBe", "(II)Z"⟩
abbrev cX11_mend : ByteArray := prog_13_method_17_code
def yX11_mend : MethodName := ⟨RX11, "mend", "(III)I"⟩
abbrev cX11_of : ByteArray := prog_13_method_18_code
def yX11_of : MethodName := ⟨RX11, "of", "(II)I"⟩
abbrev cX11_feed : ByteArray := prog_13_method_19_code
def yX11_feed : MethodName := ⟨RX11, "feed", "(I)I"⟩
abbrev cX11_look : ByteArray := prog_13_method_20_code
def yX11_look : MethodName := ⟨RX11, "look", "()I"⟩
abbrev cX11_faulty : ByteArray := prog_13_method_21_code
def yX11_faulty : MethodName := ⟨RX11, "faulty", "()V"⟩
abbrev cX11_addStep : ByteArray := prog_13_method_22_code
def yX11_addStep : MethodName := ⟨RX11, "addStep", "(II)V"⟩
abbrev cX11_nameOf : ByteArray := prog_13_method_23_code
def yX11_nameOf : MethodName := ⟨RX11, "nameOf", "(I)I"⟩
abbrev cX11_opens : ByteArray := prog_13_method_24_code
def yX11_opens : MethodName := ⟨RX11, "opens", "()Z"⟩
abbrev cX11_figure : ByteArray := prog_13_method_25_code
def yX11_figure : MethodName := ⟨RX11, "figure", "()V"⟩
abbrev cX11_operand : ByteArray := prog_13_method_26_code
def yX11_operand : MethodName := ⟨RX11, "operand", "()V"⟩
abbrev cX11_product : ByteArray := prog_13_method_27_code
def yX11_product : MethodName := ⟨RX11, "product", "()V"⟩
abbrev cX11_sum : ByteArray := prog_13_method_28_code
def yX11_sum : MethodName := ⟨RX11, "sum", "()V"⟩
abbrev cX11_compared : ByteArray := prog_13_method_29_code
def yX11_compared : MethodName := ⟨RX11, "compared", "()V"⟩
abbrev cX11_both : ByteArray := prog_13_method_30_code
def yX11_both : MethodName := ⟨RX11, "both", "()V"⟩
abbrev cX11_either : ByteArray := prog_13_method_31_code
def yX11_either : MethodName := ⟨RX11, "either", "()V"⟩
abbrev cX11_line : ByteArray := prog_13_method_32_code
def yX11_line : MethodName := ⟨RX11, "line", "()V"⟩
abbrev cX11_readText : ByteArray := prog_13_method_33_code
def yX11_readText : MethodName := ⟨RX11, "readText", "(I)I"⟩
abbrev cX11_twoOf : ByteArray := prog_13_method_34_code
def yX11_twoOf : MethodName := ⟨RX11, "twoOf", "(III)I"⟩
abbrev cX11_worked : ByteArray := prog_13_method_35_code
def yX11_worked : MethodName := ⟨RX11, "worked", "(III)I"⟩
abbrev cX11_gives : ByteArray := prog_13_method_36_code
def yX11_gives : MethodName := ⟨RX11, "gives", "(I)I"⟩
abbrev cX11_law : ByteArray := prog_13_method_37_code
def yX11_law : MethodName := ⟨RX11, "law", "()I"⟩
abbrev cX11_goingTakes : ByteArray := prog_13_method_38_code
def yX11_goingTakes : MethodName := ⟨RX11, "goingTakes", "(IIIII)I"⟩
abbrev cX11_begin : ByteArray := prog_13_method_39_code
def yX11_begin : MethodName := ⟨RX11, "begin", "(I)V"⟩
abbrev cX11_allThings : ByteArray := prog_13_method_40_code
def yX11_allThings : MethodName := ⟨RX11, "allThings", "()I"⟩
abbrev cX11_comesAt : ByteArray := prog_13_method_41_code
def yX11_comesAt : MethodName := ⟨RX11, "comesAt", "(I)I"⟩
abbrev cX11_worthOf : ByteArray := prog_13_method_42_code
def yX11_worthOf : MethodName := ⟨RX11, "worthOf", "(I)I"⟩
abbrev cX11_toHouse : ByteArray := prog_13_method_43_code
def yX11_toHouse : MethodName := ⟨RX11, "toHouse", "(I)I"⟩
abbrev cX11_goFor : ByteArray := prog_13_method_44_code
def yX11_goFor : MethodName := ⟨RX11, "goFor", "(II)V"⟩
abbrev cX11_stopAt : ByteArray := prog_13_method_45_code
def yX11_stopAt : MethodName := ⟨RX11, "stopAt", "(I)V"⟩
abbrev cX11_goDrive : ByteArray := prog_13_method_46_code
def yX11_goDrive : MethodName := ⟨RX11, "goDrive", "(I)V"⟩
abbrev cX11_costNow : ByteArray := prog_13_method_47_code
def yX11_costNow : MethodName := ⟨RX11, "costNow", "()I"⟩
abbrev cX11_isTold : ByteArray := prog_13_method_48_code
def yX11_isTold : MethodName := ⟨RX11, "isTold", "(I)Z"⟩
abbrev cX11_drive : ByteArray := prog_13_method_49_code
def yX11_drive : MethodName := ⟨RX11, "drive", "(II)I"⟩
abbrev cX11_going : ByteArray := prog_13_method_50_code
def yX11_going : MethodName := ⟨RX11, "going", "(III)I"⟩
abbrev cX11_findCosts : ByteArray := prog_13_method_51_code
def yX11_findCosts : MethodName := ⟨RX11, "findCosts", "()V"⟩
abbrev cX11_likelyOf : ByteArray := prog_13_method_52_code
def yX11_likelyOf : MethodName := ⟨RX11, "likelyOf", "(I)J"⟩
abbrev cX11_power : ByteArray := prog_13_method_53_code
def yX11_power : MethodName := ⟨RX11, "power", "(I)J"⟩
abbrev cX11_asPart : ByteArray := prog_13_method_54_code
def yX11_asPart : MethodName := ⟨RX11, "asPart", "(JJI)J"⟩
abbrev cX11_meanNow : ByteArray := prog_13_method_55_code
def yX11_meanNow : MethodName := ⟨RX11, "meanNow", "()J"⟩
abbrev cX11_isPart : ByteArray := prog_13_method_56_code
def yX11_isPart : MethodName := ⟨RX11, "isPart", "(I)Z"⟩
abbrev cX11_mean : ByteArray := prog_13_method_57_code
def yX11_mean : MethodName := ⟨RX11, "mean", "(I)J"⟩
abbrev cX11_likely : ByteArray := prog_13_method_58_code
def yX11_likely : MethodName := ⟨RX11, "likely", "(II)J"⟩
abbrev cX11_aloudBy : ByteArray := prog_13_method_59_code
def yX11_aloudBy : MethodName := ⟨RX11, "aloudBy", "(II)I"⟩
abbrev cX11_aloud : ByteArray := prog_13_method_60_code
def yX11_aloud : MethodName := ⟨RX11, "aloud", "(II)I"⟩
abbrev cX11_who : ByteArray := prog_13_method_61_code
def yX11_who : MethodName := ⟨RX11, "who", "(I)I"⟩
abbrev cX11_doorstep : ByteArray := prog_13_method_62_code
def yX11_doorstep : MethodName := ⟨RX11, "doorstep", "(I)J"⟩
abbrev cX11_meanBy : ByteArray := prog_13_method_63_code
def yX11_meanBy : MethodName := ⟨RX11, "meanBy", "(I)J"⟩
abbrev cX11_list : ByteArray := prog_13_method_64_code
def yX11_list : MethodName := ⟨RX11, "list", "(II)J"⟩
abbrev cX11_onWith : ByteArray := prog_13_method_65_code
def yX11_onWith : MethodName := ⟨RX11, "onWith", "(I)I"⟩
abbrev cX11_rowFault : ByteArray := prog_13_method_66_code
def yX11_rowFault : MethodName := ⟨RX11, "rowFault", "(I)I"⟩
abbrev cX11_wrongIn : ByteArray := prog_13_method_67_code
def yX11_wrongIn : MethodName := ⟨RX11, "wrongIn", "(II)I"⟩
abbrev cX11_judge : ByteArray := prog_13_method_68_code
def yX11_judge : MethodName := ⟨RX11, "judge", "(II)I"⟩
abbrev cX11_which : ByteArray := prog_13_method_69_code
def yX11_which : MethodName := ⟨RX11, "which", "(II)I"⟩
abbrev cX11_first : ByteArray := prog_13_method_70_code
def yX11_first : MethodName := ⟨RX11, "first", "(I)I"⟩
abbrev cX11_chain : ByteArray := prog_13_method_71_code
def yX11_chain : MethodName := ⟨RX11, "chain", "(I)I"⟩
abbrev cX11_drawSet : ByteArray := prog_13_method_72_code
def yX11_drawSet : MethodName := ⟨RX11, "drawSet", "()I"⟩
abbrev cX11_drawn : ByteArray := prog_13_method_73_code
def yX11_drawn : MethodName := ⟨RX11, "drawn", "(III)I"⟩
abbrev cX11_layDeed : ByteArray := prog_13_method_74_code
def yX11_layDeed : MethodName := ⟨RX11, "layDeed", "()V"⟩
abbrev cX11_takeDeed : ByteArray := prog_13_method_75_code
def yX11_takeDeed : MethodName := ⟨RX11, "takeDeed", "()V"⟩
abbrev cX11_lock : ByteArray := prog_13_method_76_code
def yX11_lock : MethodName := ⟨RX11, "lock", "(I)I"⟩
abbrev cX11_on : ByteArray := prog_13_method_77_code
def yX11_on : MethodName := ⟨RX11, "on", "()I"⟩
abbrev cX11_led : ByteArray := prog_13_method_78_code
def yX11_led : MethodName := ⟨RX11, "led", "(I)I"⟩
abbrev cX11_image : ByteArray := prog_13_method_79_code
def yX11_image : MethodName := ⟨RX11, "image", "()I"⟩
abbrev cX11_back : ByteArray := prog_13_method_80_code
def yX11_back : MethodName := ⟨RX11, "back", "()I"⟩
abbrev cX11_isBody : ByteArray := prog_13_method_81_code
def yX11_isBody : MethodName := ⟨RX11, "isBody", "(I)Z"⟩
abbrev cX11_ran : ByteArray := prog_13_method_82_code
def yX11_ran : MethodName := ⟨RX11, "ran", "(I)V"⟩
abbrev cX11_trace : ByteArray := prog_13_method_83_code
def yX11_trace : MethodName := ⟨RX11, "trace", "(I)I"⟩
abbrev cX11_body : ByteArray := prog_13_method_84_code
def yX11_body : MethodName := ⟨RX11, "body", "(I)I"⟩
abbrev cX11_isUnder : ByteArray := prog_13_method_85_code
def yX11_isUnder : MethodName := ⟨RX11, "isUnder", "(II)Z"⟩
abbrev cX11_plainGoes : ByteArray := prog_13_method_86_code
def yX11_plainGoes : MethodName := ⟨RX11, "plainGoes", "(II)I"⟩
abbrev cX11_leftGoes : ByteArray := prog_13_method_87_code
def yX11_leftGoes : MethodName := ⟨RX11, "leftGoes", "(II)I"⟩
abbrev cX11_goesOf : ByteArray := prog_13_method_88_code
def yX11_goesOf : MethodName := ⟨RX11, "goesOf", "(II)I"⟩
abbrev cX11_plainFinds : ByteArray := prog_13_method_89_code
def yX11_plainFinds : MethodName := ⟨RX11, "plainFinds", "(II)I"⟩
abbrev cX11_longFinds : ByteArray := prog_13_method_90_code
def yX11_longFinds : MethodName := ⟨RX11, "longFinds", "(II)I"⟩
abbrev cX11_finding : ByteArray := prog_13_method_91_code
def yX11_finding : MethodName := ⟨RX11, "finding", "(II)I"⟩
abbrev cX11_plainSets : ByteArray := prog_13_method_92_code
def yX11_plainSets : MethodName := ⟨RX11, "plainSets", "(II)I"⟩
abbrev cX11_offSets : ByteArray := prog_13_method_93_code
def yX11_offSets : MethodName := ⟨RX11, "offSets", "(II)I"⟩
abbrev cX11_setting : ByteArray := prog_13_method_94_code
def yX11_setting : MethodName := ⟨RX11, "setting", "(II)I"⟩
abbrev cX11_plainTells : ByteArray := prog_13_method_95_code
def yX11_plainTells : MethodName := ⟨RX11, "plainTells", "(II)I"⟩
abbrev cX11_telling : ByteArray := prog_13_method_96_code
def yX11_telling : MethodName := ⟨RX11, "telling", "(II)I"⟩
abbrev cX11_act : ByteArray := prog_13_method_97_code
def yX11_act : MethodName := ⟨RX11, "act", "(III)I"⟩
abbrev cX11_count : ByteArray := prog_13_method_98_code
def yX11_count : MethodName := ⟨RX11, "count", "(I)I"⟩
abbrev cX11_isShelf : ByteArray := prog_13_method_99_code
def yX11_isShelf : MethodName := ⟨RX11, "isShelf", "(I)Z"⟩
abbrev cX11_keep : ByteArray := prog_13_method_100_code
def yX11_keep : MethodName := ⟨RX11, "keep", "(II)I"⟩
abbrev cX11_row : ByteArray := prog_13_method_101_code
def yX11_row : MethodName := ⟨RX11, "row", "(III)I"⟩
abbrev cX11_whyNoPlace : ByteArray := prog_13_method_102_code
def yX11_whyNoPlace : MethodName := ⟨RX11, "whyNoPlace", "(II)I"⟩
abbrev cX11_put : ByteArray := prog_13_method_103_code
def yX11_put : MethodName := ⟨RX11, "put", "(IIJ)I"⟩
abbrev cX11_element : ByteArray := prog_13_method_104_code
def yX11_element : MethodName := ⟨RX11, "element", "(II)J"⟩
abbrev cX11_shift : ByteArray := prog_13_method_105_code
def yX11_shift : MethodName := ⟨RX11, "shift", "(IIIII)I"⟩
abbrev cX11_taken : ByteArray := prog_13_method_106_code
def yX11_taken : MethodName := ⟨RX11, "taken", "(II)I"⟩
def RJ6 : String := "java/lang/Integer"
def TJ6 : u_T := fun k => match k with
  | _ => ("", "", "", false)
def tyJ6 : Nat → FieldType := fun k => match k with
  | _ => .int
abbrev wsJ60 : List Cond := u_ws RJ6 TJ6 0
theorem nmJ6 : ∀ a, a < 0 → ∀ b, b < 0 → a ≠ b → (TJ6 a).2.1 ≠ (TJ6 b).2.1 := by decide +kernel
theorem tyJ6_ok : ∀ k, k < 0 → parseFieldDescriptor (TJ6 k).2.2.1 = some (tyJ6 k) := by decide +kernel
abbrev cJ6_bitCount_0f7a4 : ByteArray := prog_14_method_49_code
def yJ6_bitCount_0f7a4 : MethodName := ⟨RJ6, "bitCount", "(I)I"⟩
def RJ9 : String := "java/lang/Math"
def TJ9 : u_T := fun k => match k with
  | _ => ("", "", "", false)
def tyJ9 : Nat → FieldType := fun k => match k with
  | _ => .int
abbrev wsJ90 : List Cond := u_ws RJ9 TJ9 0
theorem nmJ9 : ∀ a, a < 0 → ∀ b, b < 0 → a ≠ b → (TJ9 a).2.1 ≠ (TJ9 b).2.1 := by decide +kernel
theorem tyJ9_ok : ∀ k, k < 0 → parseFieldDescriptor (TJ9 k).2.2.1 = some (tyJ9 k) := by decide +kernel
abbrev cJ9_max_7cf53 : ByteArray := prog_15_method_65_code
def yJ9_max_7cf53 : MethodName := ⟨RJ9, "max", "(II)I"⟩
abbrev cJ9_min_7cf53 : ByteArray := prog_15_method_69_code
def yJ9_min_7cf53 : MethodName := ⟨RJ9, "min", "(II)I"⟩
abbrev cJ9_min_f86c9 : ByteArray := prog_15_method_70_code
def yJ9_min_f86c9 : MethodName := ⟨RJ9, "min", "(JJ)J"⟩
def RJ10 : String := "java/lang/System"
def TJ10 : u_T := fun k => match k with
  | _ => ("", "", "", false)
def tyJ10 : Nat → FieldType := fun k => match k with
  | _ => .int
abbrev wsJ100 : List Cond := u_ws RJ10 TJ10 0
theorem nmJ10 : ∀ a, a < 0 → ∀ b, b < 0 → a ≠ b → (TJ10 a).2.1 ≠ (TJ10 b).2.1 := by decide +kernel
theorem tyJ10_ok : ∀ k, k < 0 → parseFieldDescriptor (TJ10 k).2.2.1 = some (tyJ10 k) := by decide +kernel
def RL : String := "BackHouseLaw"
abbrev cL_law : ByteArray := code
def yL_law : MethodName := ⟨RL, "law", "([I)Z"⟩
abbrev vwCl : List vw_C := [(RX0, TX0, 4), (RX1, TX1, 6), (RX2, TX2, 1), (RX3, TX3, 13), (RX4, TX4, 7), (RX5, TX5, 5), (RX6, TX6, 7), (RX7, TX7, 5), (RX8, TX8, 8), (RX9, TX9, 4), (RX10, TX10, 9), (RX11, TX11, 53)]
/-- all words that hold wherever a method of ours runs -/
def WU : List Cond := lw_tbl.filter goodWord
theorem WU_tbl : ∀ w ∈ WU, w ∈ lw_tbl := fun _ h => (List.mem_filter.mp h).1
theorem WU_good : ∀ w ∈ WU, goodWord w = true := fun _ h => (List.mem_filter.mp h).2
theorem WU_of {w : Cond} (h : w ∈ lw_tbl) (hg : goodWord w = true) : w ∈ WU := List.mem_filter.mpr ⟨h, hg⟩
theorem goodIn_WU {big : List Cond} {w0 : Cond} (h0 : w0 ∈ big) (hg : goodWord w0 = true) (h : ∀ w ∈ WU, w ∈ big) : GoodIn big (w0 :: WU) := fun w hw => by
  rcases List.mem_cons.mp hw with rfl | hw
  · exact ⟨h0, good_of_word hg⟩
  · exact ⟨h w hw, good_of_word (WU_good w hw)⟩
theorem mT1 {w : Cond} (h : w ∈ tables_1_1) : w ∈ lw_tbl := List.mem_append_right _ (List.mem_append_left _ h)
theorem mT2 {w : Cond} (h : w ∈ tables_1_2) : w ∈ lw_tbl := List.mem_append_right _ (List.mem_append_right _ (List.mem_append_left _ h))
theorem mT3 {w : Cond} (h : w ∈ tables_1_3) : w ∈ lw_tbl := List.mem_append_right _ (List.mem_append_right _ (List.mem_append_right _ (List.mem_append_left _ h)))
theorem mT4 {w : Cond} (h : w ∈ tables_1_4) : w ∈ lw_tbl := List.mem_append_right _ (List.mem_append_right _ (List.mem_append_right _ (List.mem_append_right _ (List.mem_append_left _ h))))
theorem mT5 {w : Cond} (h : w ∈ tables_1_5) : w ∈ lw_tbl := List.mem_append_right _ (List.mem_append_right _ (List.mem_append_right _ (List.mem_append_right _ (List.mem_append_right _ (List.mem_append_left _ h)))))
theorem mT6 {w : Cond} (h : w ∈ tables_1_6) : w ∈ lw_tbl := List.mem_append_right _ (List.mem_append_right _ (List.mem_append_right _ (List.mem_append_right _ (List.mem_append_right _ (List.mem_append_right _ (List.mem_append_left _ h))))))
theorem mT7 {w : Cond} (h : w ∈ tables_1_7) : w ∈ lw_tbl := List.mem_append_right _ (List.mem_append_right _ (List.mem_append_right _ (List.mem_append_right _ (List.mem_append_right _ (List.mem_append_right _ (List.mem_append_right _ h))))))
theorem mTp {w : Cond} (h : w ∈ k2_sels lw_privs) : w ∈ lw_tbl := List.mem_append_left _ h
theorem mP1 {q : MethodName × Nat} (h : q ∈ lw_privs_1) : Cond.selects q.1.cls q.1 q.1 ∈ lw_tbl := mTp (List.mem_map.mpr ⟨q, List.mem_append_left _ h, rfl⟩)
theorem mP2 {q : MethodName × Nat} (h : q ∈ lw_privs_2) : Cond.selects q.1.cls q.1 q.1 ∈ lw_tbl := mTp (List.mem_map.mpr ⟨q, List.mem_append_right _ (List.mem_append_left _ h), rfl⟩)
theorem mP3 {q : MethodName × Nat} (h : q ∈ lw_privs_3) : Cond.selects q.1.cls q.1 q.1 ∈ lw_tbl := mTp (List.mem_map.mpr ⟨q, List.mem_append_right _ (List.mem_append_right _ (List.mem_append_left _ h)), rfl⟩)
theorem mP4 {q : MethodName × Nat} (h : q ∈ lw_privs_4) : Cond.selects q.1.cls q.1 q.1 ∈ lw_tbl := mTp (List.mem_map.mpr ⟨q, List.mem_append_right _ (List.mem_append_right _ (List.mem_append_right _ (List.mem_append_left _ h))), rfl⟩)
theorem mP5 {q : MethodName × Nat} (h : q ∈ lw_privs_5) : Cond.selects q.1.cls q.1 q.1 ∈ lw_tbl := mTp (List.mem_map.mpr ⟨q, List.mem_append_right _ (List.mem_append_right _ (List.mem_append_right _ (List.mem_append_right _ (List.mem_append_left _ h)))), rfl⟩)
theorem mP6 {q : MethodName × Nat} (h : q ∈ lw_privs_6) : Cond.selects q.1.cls q.1 q.1 ∈ lw_tbl := mTp (List.mem_map.mpr ⟨q, List.mem_append_right _ (List.mem_append_right _ (List.mem_append_right _ (List.mem_append_right _ (List.mem_append_right _ h)))), rfl⟩)
