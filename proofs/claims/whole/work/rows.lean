section
-- ===== PART A: goes FIRST, ahead of the names: the tables' words, and 'selects' of the private methods out of them =====
/-- a private method of a class that the tables say can be made, by its rows of tables_1 -/
def lw_okq (q : MethodName × Nat) : Prop := (q.1.cls ≠ "java/lang/invoke/MethodHandle" ∧ q.1.cls ≠ "java/lang/invoke/VarHandle") ∧ Cond.instantiable q.1.cls q.2 ∈ tables_1 ∧ Cond.privateMethod q.1 ∈ tables_1 ∧ Cond.instanceMethod q.1 ∈ tables_1
theorem lw_p0 : lw_okq (⟨"BackHouse", "shelfAt", "(I)LBackHouse$Shelf;"⟩, 9) := ⟨⟨by decide +kernel, by decide +kernel⟩, List.mem_of_getElem? (i := 17) (by decide +kernel), List.mem_of_getElem? (i := 370) (by decide +kernel), List.mem_of_getElem? (i := 371) (by decide +kernel)⟩
theorem lw_p1 : lw_okq (⟨"BackHouse", "thingCame", "(LBackHouse$Shelf;I)Z"⟩, 9) := ⟨⟨by decide +kernel, by decide +kernel⟩, List.mem_of_getElem? (i := 17) (by decide +kernel), List.mem_of_getElem? (i := 378) (by decide +kernel), List.mem_of_getElem? (i := 379) (by decide +kernel)⟩
theorem lw_p2 : lw_okq (⟨"BackHouse$Changes", "forgetOldest", "()V"⟩, 6) := ⟨⟨by decide +kernel, by decide +kernel⟩, List.mem_of_getElem? (i := 74) (by decide +kernel), List.mem_of_getElem? (i := 406) (by decide +kernel), List.mem_of_getElem? (i := 407) (by decide +kernel)⟩
theorem lw_p3 : lw_okq (⟨"BackHouse$Reader", "line", "()V"⟩, 7) := ⟨⟨by decide +kernel, by decide +kernel⟩, List.mem_of_getElem? (i := 101) (by decide +kernel), List.mem_of_getElem? (i := 431) (by decide +kernel), List.mem_of_getElem? (i := 432) (by decide +kernel)⟩
theorem lw_p4 : lw_okq (⟨"BackHouse$Reader", "either", "(I)V"⟩, 7) := ⟨⟨by decide +kernel, by decide +kernel⟩, List.mem_of_getElem? (i := 101) (by decide +kernel), List.mem_of_getElem? (i := 435) (by decide +kernel), List.mem_of_getElem? (i := 436) (by decide +kernel)⟩
theorem lw_p5 : lw_okq (⟨"BackHouse$Reader", "both", "(I)V"⟩, 7) := ⟨⟨by decide +kernel, by decide +kernel⟩, List.mem_of_getElem? (i := 101) (by decide +kernel), List.mem_of_getElem? (i := 439) (by decide +kernel), List.mem_of_getElem? (i := 440) (by decide +kernel)⟩
theorem lw_p6 : lw_okq (⟨"BackHouse$Reader", "compared", "(I)V"⟩, 7) := ⟨⟨by decide +kernel, by decide +kernel⟩, List.mem_of_getElem? (i := 101) (by decide +kernel), List.mem_of_getElem? (i := 443) (by decide +kernel), List.mem_of_getElem? (i := 444) (by decide +kernel)⟩
theorem lw_p7 : lw_okq (⟨"BackHouse$Reader", "sum", "(I)V"⟩, 7) := ⟨⟨by decide +kernel, by decide +kernel⟩, List.mem_of_getElem? (i := 101) (by decide +kernel), List.mem_of_getElem? (i := 447) (by decide +kernel), List.mem_of_getElem? (i := 448) (by decide +kernel)⟩
theorem lw_p8 : lw_okq (⟨"BackHouse$Reader", "product", "(I)V"⟩, 7) := ⟨⟨by decide +kernel, by decide +kernel⟩, List.mem_of_getElem? (i := 101) (by decide +kernel), List.mem_of_getElem? (i := 451) (by decide +kernel), List.mem_of_getElem? (i := 452) (by decide +kernel)⟩
theorem lw_p9 : lw_okq (⟨"BackHouse$Reader", "operand", "(I)V"⟩, 7) := ⟨⟨by decide +kernel, by decide +kernel⟩, List.mem_of_getElem? (i := 101) (by decide +kernel), List.mem_of_getElem? (i := 455) (by decide +kernel), List.mem_of_getElem? (i := 456) (by decide +kernel)⟩
theorem lw_p10 : lw_okq (⟨"BackHouse$Reader", "letter", "()I"⟩, 7) := ⟨⟨by decide +kernel, by decide +kernel⟩, List.mem_of_getElem? (i := 101) (by decide +kernel), List.mem_of_getElem? (i := 459) (by decide +kernel), List.mem_of_getElem? (i := 460) (by decide +kernel)⟩
theorem lw_p11 : lw_okq (⟨"BackHouse$Reader", "number", "()V"⟩, 7) := ⟨⟨by decide +kernel, by decide +kernel⟩, List.mem_of_getElem? (i := 101) (by decide +kernel), List.mem_of_getElem? (i := 466) (by decide +kernel), List.mem_of_getElem? (i := 467) (by decide +kernel)⟩
theorem lw_p12 : lw_okq (⟨"BackHouse$Reader", "emit", "(II)V"⟩, 7) := ⟨⟨by decide +kernel, by decide +kernel⟩, List.mem_of_getElem? (i := 101) (by decide +kernel), List.mem_of_getElem? (i := 470) (by decide +kernel), List.mem_of_getElem? (i := 471) (by decide +kernel)⟩
theorem lw_p13 : lw_okq (⟨"BackHouse$Reader", "accepts", "(I)Z"⟩, 7) := ⟨⟨by decide +kernel, by decide +kernel⟩, List.mem_of_getElem? (i := 101) (by decide +kernel), List.mem_of_getElem? (i := 477) (by decide +kernel), List.mem_of_getElem? (i := 478) (by decide +kernel)⟩
theorem lw_p14 : lw_okq (⟨"BackHouse$Reader", "refuse", "()V"⟩, 7) := ⟨⟨by decide +kernel, by decide +kernel⟩, List.mem_of_getElem? (i := 101) (by decide +kernel), List.mem_of_getElem? (i := 481) (by decide +kernel), List.mem_of_getElem? (i := 482) (by decide +kernel)⟩
theorem lw_p15 : lw_okq (⟨"BackHouse$Drive", "mindedHere", "()I"⟩, 13) := ⟨⟨by decide +kernel, by decide +kernel⟩, List.mem_of_getElem? (i := 133) (by decide +kernel), List.mem_of_getElem? (i := 520) (by decide +kernel), List.mem_of_getElem? (i := 521) (by decide +kernel)⟩
def lw_privs_1 : List (MethodName × Nat) := [(⟨"BackHouse", "shelfAt", "(I)LBackHouse$Shelf;"⟩, 9), (⟨"BackHouse", "thingCame", "(LBackHouse$Shelf;I)Z"⟩, 9), (⟨"BackHouse$Changes", "forgetOldest", "()V"⟩, 6), (⟨"BackHouse$Reader", "line", "()V"⟩, 7), (⟨"BackHouse$Reader", "either", "(I)V"⟩, 7), (⟨"BackHouse$Reader", "both", "(I)V"⟩, 7), (⟨"BackHouse$Reader", "compared", "(I)V"⟩, 7), (⟨"BackHouse$Reader", "sum", "(I)V"⟩, 7), (⟨"BackHouse$Reader", "product", "(I)V"⟩, 7), (⟨"BackHouse$Reader", "operand", "(I)V"⟩, 7), (⟨"BackHouse$Reader", "letter", "()I"⟩, 7), (⟨"BackHouse$Reader", "number", "()V"⟩, 7), (⟨"BackHouse$Reader", "emit", "(II)V"⟩, 7), (⟨"BackHouse$Reader", "accepts", "(I)Z"⟩, 7), (⟨"BackHouse$Reader", "refuse", "()V"⟩, 7), (⟨"BackHouse$Drive", "mindedHere", "()I"⟩, 13)]
theorem lw_r1 : ∀ q ∈ lw_privs_1, lw_okq q := List.forall_mem_cons.mpr ⟨lw_p0, List.forall_mem_cons.mpr ⟨lw_p1, List.forall_mem_cons.mpr ⟨lw_p2, List.forall_mem_cons.mpr ⟨lw_p3, List.forall_mem_cons.mpr ⟨lw_p4, List.forall_mem_cons.mpr ⟨lw_p5, List.forall_mem_cons.mpr ⟨lw_p6, List.forall_mem_cons.mpr ⟨lw_p7, List.forall_mem_cons.mpr ⟨lw_p8, List.forall_mem_cons.mpr ⟨lw_p9, List.forall_mem_cons.mpr ⟨lw_p10, List.forall_mem_cons.mpr ⟨lw_p11, List.forall_mem_cons.mpr ⟨lw_p12, List.forall_mem_cons.mpr ⟨lw_p13, List.forall_mem_cons.mpr ⟨lw_p14, List.forall_mem_cons.mpr ⟨lw_p15, fun _ h => absurd h List.not_mem_nil⟩⟩⟩⟩⟩⟩⟩⟩⟩⟩⟩⟩⟩⟩⟩⟩
theorem lw_p16 : lw_okq (⟨"BackHouse$Drive", "open", "()I"⟩, 13) := ⟨⟨by decide +kernel, by decide +kernel⟩, List.mem_of_getElem? (i := 133) (by decide +kernel), List.mem_of_getElem? (i := 525) (by decide +kernel), List.mem_of_getElem? (i := 526) (by decide +kernel)⟩
theorem lw_p17 : lw_okq (⟨"BackHouse$Drive", "goFor", "(I)V"⟩, 13) := ⟨⟨by decide +kernel, by decide +kernel⟩, List.mem_of_getElem? (i := 133) (by decide +kernel), List.mem_of_getElem? (i := 534) (by decide +kernel), List.mem_of_getElem? (i := 535) (by decide +kernel)⟩
theorem lw_p18 : lw_okq (⟨"BackHouse$Law", "firstThatCounts", "()I"⟩, 5) := ⟨⟨by decide +kernel, by decide +kernel⟩, List.mem_of_getElem? (i := 33) (by decide +kernel), List.mem_of_getElem? (i := 552) (by decide +kernel), List.mem_of_getElem? (i := 553) (by decide +kernel)⟩
theorem lw_p19 : lw_okq (⟨"BackHouse$Law", "named", "(I)I"⟩, 5) := ⟨⟨by decide +kernel, by decide +kernel⟩, List.mem_of_getElem? (i := 33) (by decide +kernel), List.mem_of_getElem? (i := 556) (by decide +kernel), List.mem_of_getElem? (i := 557) (by decide +kernel)⟩
theorem lw_p20 : lw_okq (⟨"BackHouse$Drive", "noteGoing", "(III)V"⟩, 13) := ⟨⟨by decide +kernel, by decide +kernel⟩, List.mem_of_getElem? (i := 133) (by decide +kernel), List.mem_of_getElem? (i := 563) (by decide +kernel), List.mem_of_getElem? (i := 564) (by decide +kernel)⟩
theorem lw_p21 : lw_okq (⟨"BackHouse$Table", "part", "(IJJ)V"⟩, 8) := ⟨⟨by decide +kernel, by decide +kernel⟩, List.mem_of_getElem? (i := 191) (by decide +kernel), List.mem_of_getElem? (i := 604) (by decide +kernel), List.mem_of_getElem? (i := 605) (by decide +kernel)⟩
theorem lw_p22 : lw_okq (⟨"BackHouse$Acts", "note", "(I)V"⟩, 4) := ⟨⟨by decide +kernel, by decide +kernel⟩, List.mem_of_getElem? (i := 270) (by decide +kernel), List.mem_of_getElem? (i := 810) (by decide +kernel), List.mem_of_getElem? (i := 811) (by decide +kernel)⟩
theorem lw_p23 : lw_okq (⟨"BackHouse$Shelf", "lowestBits", "(J)J"⟩, 5) := ⟨⟨by decide +kernel, by decide +kernel⟩, List.mem_of_getElem? (i := 293) (by decide +kernel), List.mem_of_getElem? (i := 844) (by decide +kernel), List.mem_of_getElem? (i := 845) (by decide +kernel)⟩
theorem lw_p24 : lw_okq (⟨"BackHouseModel", "addThing", "(IIII)I"⟩, 53) := ⟨⟨by decide +kernel, by decide +kernel⟩, List.mem_of_getElem? (i := 870) (by decide +kernel), List.mem_of_getElem? (i := 1047) (by decide +kernel), List.mem_of_getElem? (i := 1048) (by decide +kernel)⟩
theorem lw_p25 : lw_okq (⟨"BackHouseModel", "lays", "(III)V"⟩, 53) := ⟨⟨by decide +kernel, by decide +kernel⟩, List.mem_of_getElem? (i := 870) (by decide +kernel), List.mem_of_getElem? (i := 1063) (by decide +kernel), List.mem_of_getElem? (i := 1064) (by decide +kernel)⟩
theorem lw_p26 : lw_okq (⟨"BackHouseModel", "isOne", "(II)Z"⟩, 53) := ⟨⟨by decide +kernel, by decide +kernel⟩, List.mem_of_getElem? (i := 870) (by decide +kernel), List.mem_of_getElem? (i := 1075) (by decide +kernel), List.mem_of_getElem? (i := 1076) (by decide +kernel)⟩
theorem lw_p27 : lw_okq (⟨"BackHouseModel", "isThing", "(I)Z"⟩, 53) := ⟨⟨by decide +kernel, by decide +kernel⟩, List.mem_of_getElem? (i := 870) (by decide +kernel), List.mem_of_getElem? (i := 1079) (by decide +kernel), List.mem_of_getElem? (i := 1080) (by decide +kernel)⟩
theorem lw_p28 : lw_okq (⟨"BackHouseModel", "changes", "(III)I"⟩, 53) := ⟨⟨by decide +kernel, by decide +kernel⟩, List.mem_of_getElem? (i := 870) (by decide +kernel), List.mem_of_getElem? (i := 1086) (by decide +kernel), List.mem_of_getElem? (i := 1087) (by decide +kernel)⟩
theorem lw_p29 : lw_okq (⟨"BackHouseModel", "valueAt", "(II)I"⟩, 53) := ⟨⟨by decide +kernel, by decide +kernel⟩, List.mem_of_getElem? (i := 870) (by decide +kernel), List.mem_of_getElem? (i := 1090) (by decide +kernel), List.mem_of_getElem? (i := 1091) (by decide +kernel)⟩
theorem lw_p30 : lw_okq (⟨"BackHouseModel", "readText", "(I)I"⟩, 53) := ⟨⟨by decide +kernel, by decide +kernel⟩, List.mem_of_getElem? (i := 870) (by decide +kernel), List.mem_of_getElem? (i := 1106) (by decide +kernel), List.mem_of_getElem? (i := 1107) (by decide +kernel)⟩
theorem lw_p31 : lw_okq (⟨"BackHouseModel", "line", "()V"⟩, 53) := ⟨⟨by decide +kernel, by decide +kernel⟩, List.mem_of_getElem? (i := 870) (by decide +kernel), List.mem_of_getElem? (i := 1110) (by decide +kernel), List.mem_of_getElem? (i := 1111) (by decide +kernel)⟩
def lw_privs_2 : List (MethodName × Nat) := [(⟨"BackHouse$Drive", "open", "()I"⟩, 13), (⟨"BackHouse$Drive", "goFor", "(I)V"⟩, 13), (⟨"BackHouse$Law", "firstThatCounts", "()I"⟩, 5), (⟨"BackHouse$Law", "named", "(I)I"⟩, 5), (⟨"BackHouse$Drive", "noteGoing", "(III)V"⟩, 13), (⟨"BackHouse$Table", "part", "(IJJ)V"⟩, 8), (⟨"BackHouse$Acts", "note", "(I)V"⟩, 4), (⟨"BackHouse$Shelf", "lowestBits", "(J)J"⟩, 5), (⟨"BackHouseModel", "addThing", "(IIII)I"⟩, 53), (⟨"BackHouseModel", "lays", "(III)V"⟩, 53), (⟨"BackHouseModel", "isOne", "(II)Z"⟩, 53), (⟨"BackHouseModel", "isThing", "(I)Z"⟩, 53), (⟨"BackHouseModel", "changes", "(III)I"⟩, 53), (⟨"BackHouseModel", "valueAt", "(II)I"⟩, 53), (⟨"BackHouseModel", "readText", "(I)I"⟩, 53), (⟨"BackHouseModel", "line", "()V"⟩, 53)]
theorem lw_r2 : ∀ q ∈ lw_privs_2, lw_okq q := List.forall_mem_cons.mpr ⟨lw_p16, List.forall_mem_cons.mpr ⟨lw_p17, List.forall_mem_cons.mpr ⟨lw_p18, List.forall_mem_cons.mpr ⟨lw_p19, List.forall_mem_cons.mpr ⟨lw_p20, List.forall_mem_cons.mpr ⟨lw_p21, List.forall_mem_cons.mpr ⟨lw_p22, List.forall_mem_cons.mpr ⟨lw_p23, List.forall_mem_cons.mpr ⟨lw_p24, List.forall_mem_cons.mpr ⟨lw_p25, List.forall_mem_cons.mpr ⟨lw_p26, List.forall_mem_cons.mpr ⟨lw_p27, List.forall_mem_cons.mpr ⟨lw_p28, List.forall_mem_cons.mpr ⟨lw_p29, List.forall_mem_cons.mpr ⟨lw_p30, List.forall_mem_cons.mpr ⟨lw_p31, fun _ h => absurd h List.not_mem_nil⟩⟩⟩⟩⟩⟩⟩⟩⟩⟩⟩⟩⟩⟩⟩⟩
theorem lw_p32 : lw_okq (⟨"BackHouseModel", "either", "()V"⟩, 53) := ⟨⟨by decide +kernel, by decide +kernel⟩, List.mem_of_getElem? (i := 870) (by decide +kernel), List.mem_of_getElem? (i := 1114) (by decide +kernel), List.mem_of_getElem? (i := 1115) (by decide +kernel)⟩
theorem lw_p33 : lw_okq (⟨"BackHouseModel", "both", "()V"⟩, 53) := ⟨⟨by decide +kernel, by decide +kernel⟩, List.mem_of_getElem? (i := 870) (by decide +kernel), List.mem_of_getElem? (i := 1118) (by decide +kernel), List.mem_of_getElem? (i := 1119) (by decide +kernel)⟩
theorem lw_p34 : lw_okq (⟨"BackHouseModel", "compared", "()V"⟩, 53) := ⟨⟨by decide +kernel, by decide +kernel⟩, List.mem_of_getElem? (i := 870) (by decide +kernel), List.mem_of_getElem? (i := 1122) (by decide +kernel), List.mem_of_getElem? (i := 1123) (by decide +kernel)⟩
theorem lw_p35 : lw_okq (⟨"BackHouseModel", "sum", "()V"⟩, 53) := ⟨⟨by decide +kernel, by decide +kernel⟩, List.mem_of_getElem? (i := 870) (by decide +kernel), List.mem_of_getElem? (i := 1126) (by decide +kernel), List.mem_of_getElem? (i := 1127) (by decide +kernel)⟩
theorem lw_p36 : lw_okq (⟨"BackHouseModel", "product", "()V"⟩, 53) := ⟨⟨by decide +kernel, by decide +kernel⟩, List.mem_of_getElem? (i := 870) (by decide +kernel), List.mem_of_getElem? (i := 1130) (by decide +kernel), List.mem_of_getElem? (i := 1131) (by decide +kernel)⟩
theorem lw_p37 : lw_okq (⟨"BackHouseModel", "operand", "()V"⟩, 53) := ⟨⟨by decide +kernel, by decide +kernel⟩, List.mem_of_getElem? (i := 870) (by decide +kernel), List.mem_of_getElem? (i := 1134) (by decide +kernel), List.mem_of_getElem? (i := 1135) (by decide +kernel)⟩
theorem lw_p38 : lw_okq (⟨"BackHouseModel", "look", "()I"⟩, 53) := ⟨⟨by decide +kernel, by decide +kernel⟩, List.mem_of_getElem? (i := 870) (by decide +kernel), List.mem_of_getElem? (i := 1138) (by decide +kernel), List.mem_of_getElem? (i := 1139) (by decide +kernel)⟩
theorem lw_p39 : lw_okq (⟨"BackHouseModel", "addStep", "(II)V"⟩, 53) := ⟨⟨by decide +kernel, by decide +kernel⟩, List.mem_of_getElem? (i := 870) (by decide +kernel), List.mem_of_getElem? (i := 1145) (by decide +kernel), List.mem_of_getElem? (i := 1146) (by decide +kernel)⟩
theorem lw_p40 : lw_okq (⟨"BackHouseModel", "opens", "()Z"⟩, 53) := ⟨⟨by decide +kernel, by decide +kernel⟩, List.mem_of_getElem? (i := 870) (by decide +kernel), List.mem_of_getElem? (i := 1149) (by decide +kernel), List.mem_of_getElem? (i := 1150) (by decide +kernel)⟩
theorem lw_p41 : lw_okq (⟨"BackHouseModel", "faulty", "()V"⟩, 53) := ⟨⟨by decide +kernel, by decide +kernel⟩, List.mem_of_getElem? (i := 870) (by decide +kernel), List.mem_of_getElem? (i := 1153) (by decide +kernel), List.mem_of_getElem? (i := 1154) (by decide +kernel)⟩
theorem lw_p42 : lw_okq (⟨"BackHouseModel", "figure", "()V"⟩, 53) := ⟨⟨by decide +kernel, by decide +kernel⟩, List.mem_of_getElem? (i := 870) (by decide +kernel), List.mem_of_getElem? (i := 1157) (by decide +kernel), List.mem_of_getElem? (i := 1158) (by decide +kernel)⟩
theorem lw_p43 : lw_okq (⟨"BackHouseModel", "isTold", "(I)Z"⟩, 53) := ⟨⟨by decide +kernel, by decide +kernel⟩, List.mem_of_getElem? (i := 870) (by decide +kernel), List.mem_of_getElem? (i := 1165) (by decide +kernel), List.mem_of_getElem? (i := 1166) (by decide +kernel)⟩
theorem lw_p44 : lw_okq (⟨"BackHouseModel", "allThings", "()I"⟩, 53) := ⟨⟨by decide +kernel, by decide +kernel⟩, List.mem_of_getElem? (i := 870) (by decide +kernel), List.mem_of_getElem? (i := 1169) (by decide +kernel), List.mem_of_getElem? (i := 1170) (by decide +kernel)⟩
theorem lw_p45 : lw_okq (⟨"BackHouseModel", "goDrive", "(I)V"⟩, 53) := ⟨⟨by decide +kernel, by decide +kernel⟩, List.mem_of_getElem? (i := 870) (by decide +kernel), List.mem_of_getElem? (i := 1173) (by decide +kernel), List.mem_of_getElem? (i := 1174) (by decide +kernel)⟩
theorem lw_p46 : lw_okq (⟨"BackHouseModel", "begin", "(I)V"⟩, 53) := ⟨⟨by decide +kernel, by decide +kernel⟩, List.mem_of_getElem? (i := 870) (by decide +kernel), List.mem_of_getElem? (i := 1177) (by decide +kernel), List.mem_of_getElem? (i := 1178) (by decide +kernel)⟩
theorem lw_p47 : lw_okq (⟨"BackHouseModel", "stopAt", "(I)V"⟩, 53) := ⟨⟨by decide +kernel, by decide +kernel⟩, List.mem_of_getElem? (i := 870) (by decide +kernel), List.mem_of_getElem? (i := 1181) (by decide +kernel), List.mem_of_getElem? (i := 1182) (by decide +kernel)⟩
def lw_privs_3 : List (MethodName × Nat) := [(⟨"BackHouseModel", "either", "()V"⟩, 53), (⟨"BackHouseModel", "both", "()V"⟩, 53), (⟨"BackHouseModel", "compared", "()V"⟩, 53), (⟨"BackHouseModel", "sum", "()V"⟩, 53), (⟨"BackHouseModel", "product", "()V"⟩, 53), (⟨"BackHouseModel", "operand", "()V"⟩, 53), (⟨"BackHouseModel", "look", "()I"⟩, 53), (⟨"BackHouseModel", "addStep", "(II)V"⟩, 53), (⟨"BackHouseModel", "opens", "()Z"⟩, 53), (⟨"BackHouseModel", "faulty", "()V"⟩, 53), (⟨"BackHouseModel", "figure", "()V"⟩, 53), (⟨"BackHouseModel", "isTold", "(I)Z"⟩, 53), (⟨"BackHouseModel", "allThings", "()I"⟩, 53), (⟨"BackHouseModel", "goDrive", "(I)V"⟩, 53), (⟨"BackHouseModel", "begin", "(I)V"⟩, 53), (⟨"BackHouseModel", "stopAt", "(I)V"⟩, 53)]
theorem lw_r3 : ∀ q ∈ lw_privs_3, lw_okq q := List.forall_mem_cons.mpr ⟨lw_p32, List.forall_mem_cons.mpr ⟨lw_p33, List.forall_mem_cons.mpr ⟨lw_p34, List.forall_mem_cons.mpr ⟨lw_p35, List.forall_mem_cons.mpr ⟨lw_p36, List.forall_mem_cons.mpr ⟨lw_p37, List.forall_mem_cons.mpr ⟨lw_p38, List.forall_mem_cons.mpr ⟨lw_p39, List.forall_mem_cons.mpr ⟨lw_p40, List.forall_mem_cons.mpr ⟨lw_p41, List.forall_mem_cons.mpr ⟨lw_p42, List.forall_mem_cons.mpr ⟨lw_p43, List.forall_mem_cons.mpr ⟨lw_p44, List.forall_mem_cons.mpr ⟨lw_p45, List.forall_mem_cons.mpr ⟨lw_p46, List.forall_mem_cons.mpr ⟨lw_p47, fun _ h => absurd h List.not_mem_nil⟩⟩⟩⟩⟩⟩⟩⟩⟩⟩⟩⟩⟩⟩⟩⟩
theorem lw_p48 : lw_okq (⟨"BackHouseModel", "comesAt", "(I)I"⟩, 53) := ⟨⟨by decide +kernel, by decide +kernel⟩, List.mem_of_getElem? (i := 870) (by decide +kernel), List.mem_of_getElem? (i := 1185) (by decide +kernel), List.mem_of_getElem? (i := 1186) (by decide +kernel)⟩
theorem lw_p49 : lw_okq (⟨"BackHouseModel", "goFor", "(II)V"⟩, 53) := ⟨⟨by decide +kernel, by decide +kernel⟩, List.mem_of_getElem? (i := 870) (by decide +kernel), List.mem_of_getElem? (i := 1189) (by decide +kernel), List.mem_of_getElem? (i := 1190) (by decide +kernel)⟩
theorem lw_p50 : lw_okq (⟨"BackHouseModel", "goingTakes", "(IIIII)I"⟩, 53) := ⟨⟨by decide +kernel, by decide +kernel⟩, List.mem_of_getElem? (i := 870) (by decide +kernel), List.mem_of_getElem? (i := 1193) (by decide +kernel), List.mem_of_getElem? (i := 1194) (by decide +kernel)⟩
theorem lw_p51 : lw_okq (⟨"BackHouseModel", "gives", "(I)I"⟩, 53) := ⟨⟨by decide +kernel, by decide +kernel⟩, List.mem_of_getElem? (i := 870) (by decide +kernel), List.mem_of_getElem? (i := 1197) (by decide +kernel), List.mem_of_getElem? (i := 1198) (by decide +kernel)⟩
theorem lw_p52 : lw_okq (⟨"BackHouseModel", "worked", "(III)I"⟩, 53) := ⟨⟨by decide +kernel, by decide +kernel⟩, List.mem_of_getElem? (i := 870) (by decide +kernel), List.mem_of_getElem? (i := 1201) (by decide +kernel), List.mem_of_getElem? (i := 1202) (by decide +kernel)⟩
theorem lw_p53 : lw_okq (⟨"BackHouseModel", "worthOf", "(I)I"⟩, 53) := ⟨⟨by decide +kernel, by decide +kernel⟩, List.mem_of_getElem? (i := 870) (by decide +kernel), List.mem_of_getElem? (i := 1208) (by decide +kernel), List.mem_of_getElem? (i := 1209) (by decide +kernel)⟩
theorem lw_p54 : lw_okq (⟨"BackHouseModel", "toHouse", "(I)I"⟩, 53) := ⟨⟨by decide +kernel, by decide +kernel⟩, List.mem_of_getElem? (i := 870) (by decide +kernel), List.mem_of_getElem? (i := 1212) (by decide +kernel), List.mem_of_getElem? (i := 1213) (by decide +kernel)⟩
theorem lw_p55 : lw_okq (⟨"BackHouseModel", "costNow", "()I"⟩, 53) := ⟨⟨by decide +kernel, by decide +kernel⟩, List.mem_of_getElem? (i := 870) (by decide +kernel), List.mem_of_getElem? (i := 1216) (by decide +kernel), List.mem_of_getElem? (i := 1217) (by decide +kernel)⟩
theorem lw_p56 : lw_okq (⟨"BackHouseModel", "findCosts", "()V"⟩, 53) := ⟨⟨by decide +kernel, by decide +kernel⟩, List.mem_of_getElem? (i := 870) (by decide +kernel), List.mem_of_getElem? (i := 1232) (by decide +kernel), List.mem_of_getElem? (i := 1233) (by decide +kernel)⟩
theorem lw_p57 : lw_okq (⟨"BackHouseModel", "meanNow", "()J"⟩, 53) := ⟨⟨by decide +kernel, by decide +kernel⟩, List.mem_of_getElem? (i := 870) (by decide +kernel), List.mem_of_getElem? (i := 1236) (by decide +kernel), List.mem_of_getElem? (i := 1237) (by decide +kernel)⟩
theorem lw_p58 : lw_okq (⟨"BackHouseModel", "likelyOf", "(I)J"⟩, 53) := ⟨⟨by decide +kernel, by decide +kernel⟩, List.mem_of_getElem? (i := 870) (by decide +kernel), List.mem_of_getElem? (i := 1240) (by decide +kernel), List.mem_of_getElem? (i := 1241) (by decide +kernel)⟩
theorem lw_p59 : lw_okq (⟨"BackHouseModel", "aloudBy", "(II)I"⟩, 53) := ⟨⟨by decide +kernel, by decide +kernel⟩, List.mem_of_getElem? (i := 870) (by decide +kernel), List.mem_of_getElem? (i := 1259) (by decide +kernel), List.mem_of_getElem? (i := 1260) (by decide +kernel)⟩
theorem lw_p60 : lw_okq (⟨"BackHouseModel", "meanBy", "(I)J"⟩, 53) := ⟨⟨by decide +kernel, by decide +kernel⟩, List.mem_of_getElem? (i := 870) (by decide +kernel), List.mem_of_getElem? (i := 1279) (by decide +kernel), List.mem_of_getElem? (i := 1280) (by decide +kernel)⟩
theorem lw_p61 : lw_okq (⟨"BackHouseModel", "rowFault", "(I)I"⟩, 53) := ⟨⟨by decide +kernel, by decide +kernel⟩, List.mem_of_getElem? (i := 870) (by decide +kernel), List.mem_of_getElem? (i := 1291) (by decide +kernel), List.mem_of_getElem? (i := 1292) (by decide +kernel)⟩
theorem lw_p62 : lw_okq (⟨"BackHouseModel", "wrongIn", "(II)I"⟩, 53) := ⟨⟨by decide +kernel, by decide +kernel⟩, List.mem_of_getElem? (i := 870) (by decide +kernel), List.mem_of_getElem? (i := 1295) (by decide +kernel), List.mem_of_getElem? (i := 1296) (by decide +kernel)⟩
theorem lw_p63 : lw_okq (⟨"BackHouseModel", "drawSet", "()I"⟩, 53) := ⟨⟨by decide +kernel, by decide +kernel⟩, List.mem_of_getElem? (i := 870) (by decide +kernel), List.mem_of_getElem? (i := 1315) (by decide +kernel), List.mem_of_getElem? (i := 1316) (by decide +kernel)⟩
def lw_privs_4 : List (MethodName × Nat) := [(⟨"BackHouseModel", "comesAt", "(I)I"⟩, 53), (⟨"BackHouseModel", "goFor", "(II)V"⟩, 53), (⟨"BackHouseModel", "goingTakes", "(IIIII)I"⟩, 53), (⟨"BackHouseModel", "gives", "(I)I"⟩, 53), (⟨"BackHouseModel", "worked", "(III)I"⟩, 53), (⟨"BackHouseModel", "worthOf", "(I)I"⟩, 53), (⟨"BackHouseModel", "toHouse", "(I)I"⟩, 53), (⟨"BackHouseModel", "costNow", "()I"⟩, 53), (⟨"BackHouseModel", "findCosts", "()V"⟩, 53), (⟨"BackHouseModel", "meanNow", "()J"⟩, 53), (⟨"BackHouseModel", "likelyOf", "(I)J"⟩, 53), (⟨"BackHouseModel", "aloudBy", "(II)I"⟩, 53), (⟨"BackHouseModel", "meanBy", "(I)J"⟩, 53), (⟨"BackHouseModel", "rowFault", "(I)I"⟩, 53), (⟨"BackHouseModel", "wrongIn", "(II)I"⟩, 53), (⟨"BackHouseModel", "drawSet", "()I"⟩, 53)]
theorem lw_r4 : ∀ q ∈ lw_privs_4, lw_okq q := List.forall_mem_cons.mpr ⟨lw_p48, List.forall_mem_cons.mpr ⟨lw_p49, List.forall_mem_cons.mpr ⟨lw_p50, List.forall_mem_cons.mpr ⟨lw_p51, List.forall_mem_cons.mpr ⟨lw_p52, List.forall_mem_cons.mpr ⟨lw_p53, List.forall_mem_cons.mpr ⟨lw_p54, List.forall_mem_cons.mpr ⟨lw_p55, List.forall_mem_cons.mpr ⟨lw_p56, List.forall_mem_cons.mpr ⟨lw_p57, List.forall_mem_cons.mpr ⟨lw_p58, List.forall_mem_cons.mpr ⟨lw_p59, List.forall_mem_cons.mpr ⟨lw_p60, List.forall_mem_cons.mpr ⟨lw_p61, List.forall_mem_cons.mpr ⟨lw_p62, List.forall_mem_cons.mpr ⟨lw_p63, fun _ h => absurd h List.not_mem_nil⟩⟩⟩⟩⟩⟩⟩⟩⟩⟩⟩⟩⟩⟩⟩⟩
theorem lw_p64 : lw_okq (⟨"BackHouseModel", "takeDeed", "()V"⟩, 53) := ⟨⟨by decide +kernel, by decide +kernel⟩, List.mem_of_getElem? (i := 870) (by decide +kernel), List.mem_of_getElem? (i := 1324) (by decide +kernel), List.mem_of_getElem? (i := 1325) (by decide +kernel)⟩
theorem lw_p65 : lw_okq (⟨"BackHouseModel", "layDeed", "()V"⟩, 53) := ⟨⟨by decide +kernel, by decide +kernel⟩, List.mem_of_getElem? (i := 870) (by decide +kernel), List.mem_of_getElem? (i := 1332) (by decide +kernel), List.mem_of_getElem? (i := 1333) (by decide +kernel)⟩
theorem lw_p66 : lw_okq (⟨"BackHouseModel", "isBody", "(I)Z"⟩, 53) := ⟨⟨by decide +kernel, by decide +kernel⟩, List.mem_of_getElem? (i := 870) (by decide +kernel), List.mem_of_getElem? (i := 1360) (by decide +kernel), List.mem_of_getElem? (i := 1361) (by decide +kernel)⟩
theorem lw_p67 : lw_okq (⟨"BackHouseModel", "goesOf", "(II)I"⟩, 53) := ⟨⟨by decide +kernel, by decide +kernel⟩, List.mem_of_getElem? (i := 870) (by decide +kernel), List.mem_of_getElem? (i := 1364) (by decide +kernel), List.mem_of_getElem? (i := 1365) (by decide +kernel)⟩
theorem lw_p68 : lw_okq (⟨"BackHouseModel", "ran", "(I)V"⟩, 53) := ⟨⟨by decide +kernel, by decide +kernel⟩, List.mem_of_getElem? (i := 870) (by decide +kernel), List.mem_of_getElem? (i := 1371) (by decide +kernel), List.mem_of_getElem? (i := 1372) (by decide +kernel)⟩
theorem lw_p69 : lw_okq (⟨"BackHouseModel", "plainGoes", "(II)I"⟩, 53) := ⟨⟨by decide +kernel, by decide +kernel⟩, List.mem_of_getElem? (i := 870) (by decide +kernel), List.mem_of_getElem? (i := 1375) (by decide +kernel), List.mem_of_getElem? (i := 1376) (by decide +kernel)⟩
theorem lw_p70 : lw_okq (⟨"BackHouseModel", "leftGoes", "(II)I"⟩, 53) := ⟨⟨by decide +kernel, by decide +kernel⟩, List.mem_of_getElem? (i := 870) (by decide +kernel), List.mem_of_getElem? (i := 1379) (by decide +kernel), List.mem_of_getElem? (i := 1380) (by decide +kernel)⟩
theorem lw_p71 : lw_okq (⟨"BackHouseModel", "finding", "(II)I"⟩, 53) := ⟨⟨by decide +kernel, by decide +kernel⟩, List.mem_of_getElem? (i := 870) (by decide +kernel), List.mem_of_getElem? (i := 1383) (by decide +kernel), List.mem_of_getElem? (i := 1384) (by decide +kernel)⟩
theorem lw_p72 : lw_okq (⟨"BackHouseModel", "longFinds", "(II)I"⟩, 53) := ⟨⟨by decide +kernel, by decide +kernel⟩, List.mem_of_getElem? (i := 870) (by decide +kernel), List.mem_of_getElem? (i := 1387) (by decide +kernel), List.mem_of_getElem? (i := 1388) (by decide +kernel)⟩
theorem lw_p73 : lw_okq (⟨"BackHouseModel", "plainFinds", "(II)I"⟩, 53) := ⟨⟨by decide +kernel, by decide +kernel⟩, List.mem_of_getElem? (i := 870) (by decide +kernel), List.mem_of_getElem? (i := 1391) (by decide +kernel), List.mem_of_getElem? (i := 1392) (by decide +kernel)⟩
theorem lw_p74 : lw_okq (⟨"BackHouseModel", "setting", "(II)I"⟩, 53) := ⟨⟨by decide +kernel, by decide +kernel⟩, List.mem_of_getElem? (i := 870) (by decide +kernel), List.mem_of_getElem? (i := 1395) (by decide +kernel), List.mem_of_getElem? (i := 1396) (by decide +kernel)⟩
theorem lw_p75 : lw_okq (⟨"BackHouseModel", "offSets", "(II)I"⟩, 53) := ⟨⟨by decide +kernel, by decide +kernel⟩, List.mem_of_getElem? (i := 870) (by decide +kernel), List.mem_of_getElem? (i := 1399) (by decide +kernel), List.mem_of_getElem? (i := 1400) (by decide +kernel)⟩
theorem lw_p76 : lw_okq (⟨"BackHouseModel", "plainSets", "(II)I"⟩, 53) := ⟨⟨by decide +kernel, by decide +kernel⟩, List.mem_of_getElem? (i := 870) (by decide +kernel), List.mem_of_getElem? (i := 1403) (by decide +kernel), List.mem_of_getElem? (i := 1404) (by decide +kernel)⟩
theorem lw_p77 : lw_okq (⟨"BackHouseModel", "telling", "(II)I"⟩, 53) := ⟨⟨by decide +kernel, by decide +kernel⟩, List.mem_of_getElem? (i := 870) (by decide +kernel), List.mem_of_getElem? (i := 1407) (by decide +kernel), List.mem_of_getElem? (i := 1408) (by decide +kernel)⟩
theorem lw_p78 : lw_okq (⟨"BackHouseModel", "plainTells", "(II)I"⟩, 53) := ⟨⟨by decide +kernel, by decide +kernel⟩, List.mem_of_getElem? (i := 870) (by decide +kernel), List.mem_of_getElem? (i := 1411) (by decide +kernel), List.mem_of_getElem? (i := 1412) (by decide +kernel)⟩
theorem lw_p79 : lw_okq (⟨"BackHouseModel", "whyNoPlace", "(II)I"⟩, 53) := ⟨⟨by decide +kernel, by decide +kernel⟩, List.mem_of_getElem? (i := 870) (by decide +kernel), List.mem_of_getElem? (i := 1431) (by decide +kernel), List.mem_of_getElem? (i := 1432) (by decide +kernel)⟩
def lw_privs_5 : List (MethodName × Nat) := [(⟨"BackHouseModel", "takeDeed", "()V"⟩, 53), (⟨"BackHouseModel", "layDeed", "()V"⟩, 53), (⟨"BackHouseModel", "isBody", "(I)Z"⟩, 53), (⟨"BackHouseModel", "goesOf", "(II)I"⟩, 53), (⟨"BackHouseModel", "ran", "(I)V"⟩, 53), (⟨"BackHouseModel", "plainGoes", "(II)I"⟩, 53), (⟨"BackHouseModel", "leftGoes", "(II)I"⟩, 53), (⟨"BackHouseModel", "finding", "(II)I"⟩, 53), (⟨"BackHouseModel", "longFinds", "(II)I"⟩, 53), (⟨"BackHouseModel", "plainFinds", "(II)I"⟩, 53), (⟨"BackHouseModel", "setting", "(II)I"⟩, 53), (⟨"BackHouseModel", "offSets", "(II)I"⟩, 53), (⟨"BackHouseModel", "plainSets", "(II)I"⟩, 53), (⟨"BackHouseModel", "telling", "(II)I"⟩, 53), (⟨"BackHouseModel", "plainTells", "(II)I"⟩, 53), (⟨"BackHouseModel", "whyNoPlace", "(II)I"⟩, 53)]
theorem lw_r5 : ∀ q ∈ lw_privs_5, lw_okq q := List.forall_mem_cons.mpr ⟨lw_p64, List.forall_mem_cons.mpr ⟨lw_p65, List.forall_mem_cons.mpr ⟨lw_p66, List.forall_mem_cons.mpr ⟨lw_p67, List.forall_mem_cons.mpr ⟨lw_p68, List.forall_mem_cons.mpr ⟨lw_p69, List.forall_mem_cons.mpr ⟨lw_p70, List.forall_mem_cons.mpr ⟨lw_p71, List.forall_mem_cons.mpr ⟨lw_p72, List.forall_mem_cons.mpr ⟨lw_p73, List.forall_mem_cons.mpr ⟨lw_p74, List.forall_mem_cons.mpr ⟨lw_p75, List.forall_mem_cons.mpr ⟨lw_p76, List.forall_mem_cons.mpr ⟨lw_p77, List.forall_mem_cons.mpr ⟨lw_p78, List.forall_mem_cons.mpr ⟨lw_p79, fun _ h => absurd h List.not_mem_nil⟩⟩⟩⟩⟩⟩⟩⟩⟩⟩⟩⟩⟩⟩⟩⟩
def lw_privs : List (MethodName × Nat) := lw_privs_1 ++ (lw_privs_2 ++ (lw_privs_3 ++ (lw_privs_4 ++ (lw_privs_5))))
def lw_tbl : List Cond := k2_sels lw_privs ++ tables_1
theorem lw_privs_ok : ∀ q ∈ lw_privs, lw_okq q := by
  show ∀ q ∈ lw_privs_1 ++ (lw_privs_2 ++ (lw_privs_3 ++ (lw_privs_4 ++ (lw_privs_5)))), lw_okq q
  exact List.forall_mem_append.mpr ⟨lw_r1, List.forall_mem_append.mpr ⟨lw_r2, List.forall_mem_append.mpr ⟨lw_r3, List.forall_mem_append.mpr ⟨lw_r4, lw_r5⟩⟩⟩⟩
theorem goodIn_r {big : List Cond} (ws : List Cond) (ps : List Nat) (hp : ws = ps.filterMap (fun i => big[i]?)) (h : ws.all goodWord = true) : GoodIn big ws := by
  intro w hw
  have h1 := List.all_eq_true.mp h w hw
  rw [hp] at hw
  obtain ⟨i, -, hi⟩ := List.mem_filterMap.mp hw
  have hm : w ∈ big := by first | exact List.mem_of_getElem? hi | exact List.getElem?_mem hi
  exact ⟨hm, good_of_word h1⟩
theorem goodIn_app {big a b : List Cond} (ha : GoodIn big a) (hb : GoodIn big b) : GoodIn big (a ++ b) := fun w h => (List.mem_append.mp h).elim (ha w) (hb w)
theorem goodIn_ca {big a b : List Cond} {c : Cond} (ha : GoodIn big (c :: a)) (hb : GoodIn big b) : GoodIn big (c :: (a ++ b)) := fun w h => (List.mem_cons.mp h).elim (fun e => ha w (List.mem_cons.mpr (Or.inl e))) (fun h => (List.mem_append.mp h).elim (fun h => ha w (List.mem_cons.mpr (Or.inr h))) (hb w))
theorem goodIn_sub {big ws : List Cond} (hm : ∀ w ∈ ws, w ∈ big) (h : ws.all goodWord = true) : GoodIn big ws := fun w hw => ⟨hm w hw, good_of_word (List.all_eq_true.mp h w hw)⟩
def RX0 : String := "BackHouse$Acts"
def TX0 : u_T := fun k => match k with
  | 0 => ("BackHouse$Acts", "kinds", "[I", true)
  | 1 => ("BackHouse$Acts", "traced", "[I", true)
  | 2 => ("BackHouse$Acts", "bodies", "I", false)
  | _ => ("BackHouse$Acts", "ran", "I", false)
def tyX0 : Nat → FieldType := fun k => match k with
  | 0 => .array .int
  | 1 => .array .int
  | 2 => .int
  | _ => .int
abbrev wsX00 : List Cond := u_ws RX0 TX0 4
theorem nmX0 : ∀ a, a < 4 → ∀ b, b < 4 → a ≠ b → (TX0 a).2.1 ≠ (TX0 b).2.1 := by decide +kernel
theorem tyX0_ok : ∀ k, k < 4 → parseFieldDescriptor (TX0 k).2.2.1 = some (tyX0 k) := by decide +kernel
abbrev cX0_init : ByteArray := prog_2_method_1_code
def yX0_init : MethodName := ⟨RX0, "<init>", "()V"⟩
abbrev cX0_add : ByteArray := prog_2_method_2_code
def yX0_add : MethodName := ⟨RX0, "add", "(I)I"⟩
abbrev cX0_has : ByteArray := prog_2_method_3_code
def yX0_has : MethodName := ⟨RX0, "has", "(I)Z"⟩
abbrev cX0_kindOf : ByteArray := prog_2_method_4_code
def yX0_kindOf : MethodName := ⟨RX0, "kindOf", "(I)I"⟩
abbrev cX0_isUnder : ByteArray := prog_2_method_5_code
def yX0_isUnder : MethodName := ⟨RX0, "isUnder", "(II)Z"⟩
abbrev cX0_aboveOf : ByteArray := prog_2_method_6_code
def yX0_aboveOf : MethodName := ⟨RX0, "aboveOf", "(I)I"⟩
abbrev cX0_ownBody : ByteArray := prog_2_method_7_code
def yX0_ownBody : MethodName := ⟨RX0, "ownBody", "(II)I"⟩
abbrev cX0_nearest : ByteArray := prog_2_method_8_code
def yX0_nearest : MethodName := ⟨RX0, "nearest", "(II)I"⟩
abbrev cX0_note : ByteArray := prog_2_method_9_code
def yX0_note : MethodName := ⟨RX0, "note", "(I)V"⟩
abbrev cX0_perform : ByteArray := prog_2_method_10_code
def yX0_perform : MethodName := ⟨RX0, "perform", "(IIIII)I"⟩
def RX1 : String := "BackHouse$Changes"
def TX1 : u_T := fun k => match k with
  | 0 => ("BackHouse$Changes", "what", "[I", true)
  | 1 => ("BackHouse$Changes", "number", "[I", true)
  | 2 => ("BackHouse$Changes", "before", "[I", true)
  | 3 => ("BackHouse$Changes", "after", "[I", true)
  | 4 => ("BackHouse$Changes", "done", "I", false)
  | _ => ("BackHouse$Changes", "kept", "I", false)
def tyX1 : Nat → FieldType := fun k => match k with
  | 0 => .array .int
  | 1 => .array .int
  | 2 => .array .int
  | 3 => .array .int
  | 4 => .int
  | _ => .int
abbrev wsX10 : List Cond := u_ws RX1 TX1 6
theorem nmX1 : ∀ a, a < 6 → ∀ b, b < 6 → a ≠ b → (TX1 a).2.1 ≠ (TX1 b).2.1 := by decide +kernel
theorem tyX1_ok : ∀ k, k < 6 → parseFieldDescriptor (TX1 k).2.2.1 = some (tyX1 k) := by decide +kernel
abbrev cX1_init : ByteArray := prog_3_method_1_code
def yX1_init : MethodName := ⟨RX1, "<init>", "()V"⟩
abbrev cX1_note : ByteArray := prog_3_method_2_code
def yX1_note : MethodName := ⟨RX1, "note", "(IIII)V"⟩
abbrev cX1_forgetOldest : ByteArray := prog_3_method_3_code
def yX1_forgetOldest : MethodName := ⟨RX1, "forgetOldest", "()V"⟩
abbrev cX1_undoIn : ByteArray := prog_3_method_4_code
def yX1_undoIn : MethodName := ⟨RX1, "undoIn", "(LBackHouse$World;)Z"⟩
abbrev cX1_redoIn : ByteArray := prog_3_method_5_code
def yX1_redoIn : MethodName := ⟨RX1, "redoIn", "(LBackHouse$World;)Z"⟩
def RX2 : String := "BackHouse$Draw"
def TX2 : u_T := fun k => match k with
  | _ => ("BackHouse$Draw", "last", "I", false)
def tyX2 : Nat → FieldType := fun k => match k with
  | _ => .int
abbrev wsX20 : List Cond := u_ws RX2 TX2 1
theorem nmX2 : ∀ a, a < 1 → ∀ b, b < 1 → a ≠ b → (TX2 a).2.1 ≠ (TX2 b).2.1 := by decide +kernel
theorem tyX2_ok : ∀ k, k < 1 → parseFieldDescriptor (TX2 k).2.2.1 = some (tyX2 k) := by decide +kernel
abbrev cX2_init : ByteArray := prog_4_method_1_code
def yX2_init : MethodName := ⟨RX2, "<init>", "()V"⟩
abbrev cX2_forgottenOf : ByteArray := prog_4_method_2_code
def yX2_forgottenOf : MethodName := ⟨RX2, "forgottenOf", "(LBackHouse$World;)I"⟩
def RX3 : String := "BackHouse$Drive"
def TX3 : u_T := fun k => match k with
  | 0 => ("BackHouse$Drive", "world", "LBackHouse$World;", true)
  | 1 => ("BackHouse$Drive", "goer", "[I", true)
  | 2 => ("BackHouse$Drive", "fetched", "[I", true)
  | 3 => ("BackHouse$Drive", "took", "[I", true)
  | 4 => ("BackHouse$Drive", "isOn", "Z", false)
  | 5 => ("BackHouse$Drive", "stop", "I", false)
  | 6 => ("BackHouse$Drive", "forgotten", "I", false)
  | 7 => ("BackHouse$Drive", "had", "I", false)
  | 8 => ("BackHouse$Drive", "left", "I", false)
  | 9 => ("BackHouse$Drive", "minutes", "I", false)
  | 10 => ("BackHouse$Drive", "goings", "I", false)
  | 11 => ("BackHouse$Drive", "turns", "I", false)
  | _ => ("BackHouse$Drive", "lastTurn", "I", false)
def tyX3 : Nat → FieldType := fun k => match k with
  | 0 => .object "BackHouse$World"
  | 1 => .array .int
  | 2 => .array .int
  | 3 => .array .int
  | 4 => .boolean
  | 5 => .int
  | 6 => .int
  | 7 => .int
  | 8 => .int
  | 9 => .int
  | 10 => .int
  | 11 => .int
  | _ => .int
abbrev wsX30 : List Cond := u_ws RX3 TX3 13
theorem nmX3 : ∀ a, a < 13 → ∀ b, b < 13 → a ≠ b → (TX3 a).2.1 ≠ (TX3 b).2.1 := by decide +kernel
theorem tyX3_ok : ∀ k, k < 13 → parseFieldDescriptor (TX3 k).2.2.1 = some (tyX3 k) := by decide +kernel
abbrev cX3_init : ByteArray := prog_5_method_1_code
def yX3_init : MethodName := ⟨RX3, "<init>", "(LBackHouse$World;)V"⟩
abbrev cX3_wholeWith : ByteArray := prog_5_method_2_code
def yX3_wholeWith : MethodName := ⟨RX3, "wholeWith", "(I)V"⟩
abbrev cX3_beginWith : ByteArray := prog_5_method_3_code
def yX3_beginWith : MethodName := ⟨RX3, "beginWith", "(I)V"⟩
abbrev cX3_driveOn : ByteArray := prog_5_method_4_code
def yX3_driveOn : MethodName := ⟨RX3, "driveOn", "()V"⟩
abbrev cX3_cost : ByteArray := prog_5_method_5_code
def yX3_cost : MethodName := ⟨RX3, "cost", "()I"⟩
abbrev cX3_mindedHere : ByteArray := prog_5_method_6_code
def yX3_mindedHere : MethodName := ⟨RX3, "mindedHere", "()I"⟩
abbrev cX3_open : ByteArray := prog_5_method_7_code
def yX3_open : MethodName := ⟨RX3, "open", "()I"⟩
abbrev cX3_goFor : ByteArray := prog_5_method_8_code
def yX3_goFor : MethodName := ⟨RX3, "goFor", "(I)V"⟩
abbrev cX3_leastOf : ByteArray := prog_5_method_9_code
def yX3_leastOf : MethodName := ⟨RX3, "leastOf", "(I)I"⟩
abbrev cX3_noteGoing : ByteArray := prog_5_method_10_code
def yX3_noteGoing : MethodName := ⟨RX3, "noteGoing", "(III)V"⟩
abbrev cX3_becomeLike : ByteArray := prog_5_method_11_code
def yX3_becomeLike : MethodName := ⟨RX3, "becomeLike", "(LBackHouse$Drive;)V"⟩
def RX4 : String := "BackHouse$Journey"
def TX4 : u_T := fun k => match k with
  | 0 => ("BackHouse$Journey", "drive", "LBackHouse$Drive;", true)
  | 1 => ("BackHouse$Journey", "imageDrive", "LBackHouse$Drive;", true)
  | 2 => ("BackHouse$Journey", "overs", "I", false)
  | 3 => ("BackHouse$Journey", "costs", "I", false)
  | 4 => ("BackHouse$Journey", "imageOvers", "I", false)
  | 5 => ("BackHouse$Journey", "imageCosts", "I", false)
  | _ => ("BackHouse$Journey", "hasImage", "Z", false)
def tyX4 : Nat → FieldType := fun k => match k with
  | 0 => .object "BackHouse$Drive"
  | 1 => .object "BackHouse$Drive"
  | 2 => .int
  | 3 => .int
  | 4 => .int
  | 5 => .int
  | _ => .boolean
abbrev wsX40 : List Cond := u_ws RX4 TX4 7
theorem nmX4 : ∀ a, a < 7 → ∀ b, b < 7 → a ≠ b → (TX4 a).2.1 ≠ (TX4 b).2.1 := by decide +kernel
theorem tyX4_ok : ∀ k, k < 7 → parseFieldDescriptor (TX4 k).2.2.1 = some (tyX4 k) := by decide +kernel
abbrev cX4_init : ByteArray := prog_6_method_1_code
def yX4_init : MethodName := ⟨RX4, "<init>", "(LBackHouse$World;)V"⟩
abbrev cX4_keepImage : ByteArray := prog_6_method_2_code
def yX4_keepImage : MethodName := ⟨RX4, "keepImage", "()V"⟩
abbrev cX4_layBack : ByteArray := prog_6_method_3_code
def yX4_layBack : MethodName := ⟨RX4, "layBack", "()V"⟩
def RX5 : String := "BackHouse$Law"
def TX5 : u_T := fun k => match k with
  | 0 => ("BackHouse$Law", "operations", "[I", true)
  | 1 => ("BackHouse$Law", "numbers", "[I", true)
  | 2 => ("BackHouse$Law", "stack", "[I", true)
  | 3 => ("BackHouse$Law", "names", "[I", true)
  | _ => ("BackHouse$Law", "size", "I", false)
def tyX5 : Nat → FieldType := fun k => match k with
  | 0 => .array .int
  | 1 => .array .int
  | 2 => .array .int
  | 3 => .array .int
  | _ => .int
abbrev wsX50 : List Cond := u_ws RX5 TX5 5
theorem nmX5 : ∀ a, a < 5 → ∀ b, b < 5 → a ≠ b → (TX5 a).2.1 ≠ (TX5 b).2.1 := by decide +kernel
theorem tyX5_ok : ∀ k, k < 5 → parseFieldDescriptor (TX5 k).2.2.1 = some (tyX5 k) := by decide +kernel
abbrev cX5_init : ByteArray := prog_7_method_1_code
def yX5_init : MethodName := ⟨RX5, "<init>", "()V"⟩
abbrev cX5_adopt : ByteArray := prog_7_method_2_code
def yX5_adopt : MethodName := ⟨RX5, "adopt", "([I[II)V"⟩
abbrev cX5_minutes : ByteArray := prog_7_method_3_code
def yX5_minutes : MethodName := ⟨RX5, "minutes", "(IIIII)I"⟩
abbrev cX5_firstThatCounts : ByteArray := prog_7_method_4_code
def yX5_firstThatCounts : MethodName := ⟨RX5, "firstThatCounts", "()I"⟩
abbrev cX5_named : ByteArray := prog_7_method_5_code
def yX5_named : MethodName := ⟨RX5, "named", "(I)I"⟩
abbrev cX5_together : ByteArray := prog_7_method_6_code
def yX5_together : MethodName := ⟨RX5, "together", "(III)I"⟩
abbrev cX5_held : ByteArray := prog_7_method_7_code
def yX5_held : MethodName := ⟨RX5, "held", "(I)I"⟩
def RX6 : String := "BackHouse$Reader"
def TX6 : u_T := fun k => match k with
  | 0 => ("BackHouse$Reader", "tape", "[I", true)
  | 1 => ("BackHouse$Reader", "operations", "[I", true)
  | 2 => ("BackHouse$Reader", "numbers", "[I", true)
  | 3 => ("BackHouse$Reader", "length", "I", false)
  | 4 => ("BackHouse$Reader", "size", "I", false)
  | 5 => ("BackHouse$Reader", "at", "I", false)
  | _ => ("BackHouse$Reader", "fault", "I", false)
def tyX6 : Nat → FieldType := fun k => match k with
  | 0 => .array .int
  | 1 => .array .int
  | 2 => .array .int
  | 3 => .int
  | 4 => .int
  | 5 => .int
  | _ => .int
abbrev wsX60 : List Cond := u_ws RX6 TX6 7
theorem nmX6 : ∀ a, a < 7 → ∀ b, b < 7 → a ≠ b → (TX6 a).2.1 ≠ (TX6 b).2.1 := by decide +kernel
theorem tyX6_ok : ∀ k, k < 7 → parseFieldDescriptor (TX6 k).2.2.1 = some (tyX6 k) := by decide +kernel
abbrev cX6_init : ByteArray := prog_8_method_1_code
def yX6_init : MethodName := ⟨RX6, "<init>", "()V"⟩
abbrev cX6_take : ByteArray := prog_8_method_2_code
def yX6_take : MethodName := ⟨RX6, "take", "(I)I"⟩
abbrev cX6_read : ByteArray := prog_8_method_3_code
def yX6_read : MethodName := ⟨RX6, "read", "()I"⟩
abbrev cX6_line : ByteArray := prog_8_method_4_code
def yX6_line : MethodName := ⟨RX6, "line", "()V"⟩
abbrev cX6_either : ByteArray := prog_8_method_5_code
def yX6_either : MethodName := ⟨RX6, "either", "(I)V"⟩
abbrev cX6_both : ByteArray := prog_8_method_6_code
def yX6_both : MethodName := ⟨RX6, "both", "(I)V"⟩
abbrev cX6_compared : ByteArray := prog_8_method_7_code
def yX6_compared : MethodName := ⟨RX6, "compared", "(I)V"⟩
abbrev cX6_sum : ByteArray := prog_8_method_8_code
def yX6_sum : MethodName := ⟨RX6, "sum", "(I)V"⟩
abbrev cX6_product : ByteArray := prog_8_method_9_code
def yX6_product : MethodName := ⟨RX6, "product", "(I)V"⟩
abbrev cX6_operand : ByteArray := prog_8_method_10_code
def yX6_operand : MethodName := ⟨RX6, "operand", "(I)V"⟩
abbrev cX6_number : ByteArray := prog_8_method_11_code
def yX6_number : MethodName := ⟨RX6, "number", "()V"⟩
abbrev cX6_letter : ByteArray := prog_8_method_12_code
def yX6_letter : MethodName := ⟨RX6, "letter", "()I"⟩
abbrev cX6_accepts : ByteArray := prog_8_method_13_code
def yX6_accepts : MethodName := ⟨RX6, "accepts", "(I)Z"⟩
abbrev cX6_isDigit : ByteArray := prog_8_method_14_code
def yX6_isDigit : MethodName := ⟨RX6, "isDigit", "(I)Z"⟩
abbrev cX6_nameOf : ByteArray := prog_8_method_15_code
def yX6_nameOf : MethodName := ⟨RX6, "nameOf", "(I)I"⟩
abbrev cX6_refuse : ByteArray := prog_8_method_16_code
def yX6_refuse : MethodName := ⟨RX6, "refuse", "()V"⟩
abbrev cX6_emit : ByteArray := prog_8_method_17_code
def yX6_emit : MethodName := ⟨RX6, "emit", "(II)V"⟩
def RX7 : String := "BackHouse$Shelf"
def TX7 : u_T := fun k => match k with
  | 0 => ("BackHouse$Shelf", "elements", "[J", true)
  | 1 => ("BackHouse$Shelf", "holds", "I", false)
  | 2 => ("BackHouse$Shelf", "bodyHeld", "I", false)
  | 3 => ("BackHouse$Shelf", "sort", "I", false)
  | _ => ("BackHouse$Shelf", "size", "I", false)
def tyX7 : Nat → FieldType := fun k => match k with
  | 0 => .array .long
  | 1 => .int
  | 2 => .int
  | 3 => .int
  | _ => .int
abbrev wsX70 : List Cond := u_ws RX7 TX7 5
theorem nmX7 : ∀ a, a < 5 → ∀ b, b < 5 → a ≠ b → (TX7 a).2.1 ≠ (TX7 b).2.1 := by decide +kernel
theorem tyX7_ok : ∀ k, k < 5 → parseFieldDescriptor (TX7 k).2.2.1 = some (tyX7 k) := by decide +kernel
abbrev cX7_init : ByteArray := prog_9_method_1_code
def yX7_init : MethodName := ⟨RX7, "<init>", "()V"⟩
abbrev cX7_becomeRow : ByteArray := prog_9_method_2_code
def yX7_becomeRow : MethodName := ⟨RX7, "becomeRow", "(II)V"⟩
abbrev cX7_holdsBytes : ByteArray := prog_9_method_3_code
def yX7_holdsBytes : MethodName := ⟨RX7, "holdsBytes", "()Z"⟩
abbrev cX7_refusalOfBytes : ByteArray := prog_9_method_4_code
def yX7_refusalOfBytes : MethodName := ⟨RX7, "refusalOfBytes", "()I"⟩
abbrev cX7_refusalOfPlace : ByteArray := prog_9_method_5_code
def yX7_refusalOfPlace : MethodName := ⟨RX7, "refusalOfPlace", "(I)I"⟩
abbrev cX7_hasPlaces : ByteArray := prog_9_method_6_code
def yX7_hasPlaces : MethodName := ⟨RX7, "hasPlaces", "(II)Z"⟩
abbrev cX7_elementAt : ByteArray := prog_9_method_7_code
def yX7_elementAt : MethodName := ⟨RX7, "elementAt", "(I)J"⟩
abbrev cX7_store : ByteArray := prog_9_method_8_code
def yX7_store : MethodName := ⟨RX7, "store", "(IJ)V"⟩
abbrev cX7_lowestBits : ByteArray := prog_9_method_9_code
def yX7_lowestBits : MethodName := ⟨RX7, "lowestBits", "(J)J"⟩
def RX8 : String := "BackHouse$Table"
def TX8 : u_T := fun k => match k with
  | 0 => ("BackHouse$Table", "world", "LBackHouse$World;", true)
  | 1 => ("BackHouse$Table", "drive", "LBackHouse$Drive;", true)
  | 2 => ("BackHouse$Table", "cost", "[I", true)
  | 3 => ("BackHouse$Table", "left", "[I", true)
  | 4 => ("BackHouse$Table", "goings", "[I", true)
  | 5 => ("BackHouse$Table", "weight", "[J", true)
  | 6 => ("BackHouse$Table", "below", "J", false)
  | _ => ("BackHouse$Table", "edition", "I", false)
def tyX8 : Nat → FieldType := fun k => match k with
  | 0 => .object "BackHouse$World"
  | 1 => .object "BackHouse$Drive"
  | 2 => .array .int
  | 3 => .array .int
  | 4 => .array .int
  | 5 => .array .long
  | 6 => .long
  | _ => .int
abbrev wsX80 : List Cond := u_ws RX8 TX8 8
theorem nmX8 : ∀ a, a < 8 → ∀ b, b < 8 → a ≠ b → (TX8 a).2.1 ≠ (TX8 b).2.1 := by decide +kernel
theorem tyX8_ok : ∀ k, k < 8 → parseFieldDescriptor (TX8 k).2.2.1 = some (tyX8 k) := by decide +kernel
abbrev cX8_init : ByteArray := prog_10_method_1_code
def yX8_init : MethodName := ⟨RX8, "<init>", "(LBackHouse$World;)V"⟩
abbrev cX8_refresh : ByteArray := prog_10_method_2_code
def yX8_refresh : MethodName := ⟨RX8, "refresh", "()V"⟩
abbrev cX8_weigh : ByteArray := prog_10_method_3_code
def yX8_weigh : MethodName := ⟨RX8, "weigh", "(II)V"⟩
abbrev cX8_part : ByteArray := prog_10_method_4_code
def yX8_part : MethodName := ⟨RX8, "part", "(IJJ)V"⟩
abbrev cX8_costs : ByteArray := prog_10_method_5_code
def yX8_costs : MethodName := ⟨RX8, "costs", "()J"⟩
abbrev cX8_waysWithoutGoing : ByteArray := prog_10_method_6_code
def yX8_waysWithoutGoing : MethodName := ⟨RX8, "waysWithoutGoing", "()J"⟩
abbrev cX8_waysWithLeft : ByteArray := prog_10_method_7_code
def yX8_waysWithLeft : MethodName := ⟨RX8, "waysWithLeft", "(I)J"⟩
abbrev cX8_inLowestTerms : ByteArray := prog_10_method_8_code
def yX8_inLowestTerms : MethodName := ⟨RX8, "inLowestTerms", "(JI)J"⟩
abbrev cX8_bestDoorstep : ByteArray := prog_10_method_9_code
def yX8_bestDoorstep : MethodName := ⟨RX8, "bestDoorstep", "()I"⟩
abbrev cX8_bestList : ByteArray := prog_10_method_10_code
def yX8_bestList : MethodName := ⟨RX8, "bestList", "(I)I"⟩
abbrev cX8_dearest : ByteArray := prog_10_method_11_code
def yX8_dearest : MethodName := ⟨RX8, "dearest", "()I"⟩
abbrev cX8_costOf : ByteArray := prog_10_method_12_code
def yX8_costOf : MethodName := ⟨RX8, "costOf", "(I)I"⟩
def RX9 : String := "BackHouse$World"
def TX9 : u_T := fun k => match k with
  | 0 => ("BackHouse$World", "numbers", "[[I", true)
  | 1 => ("BackHouse$World", "law", "LBackHouse$Law;", true)
  | 2 => ("BackHouse$World", "things", "I", false)
  | _ => ("BackHouse$World", "edition", "I", false)
def tyX9 : Nat → FieldType := fun k => match k with
  | 0 => .array (.array .int)
  | 1 => .object "BackHouse$Law"
  | 2 => .int
  | _ => .int
abbrev wsX90 : List Cond := u_ws RX9 TX9 4
theorem nmX9 : ∀ a, a < 4 → ∀ b, b < 4 → a ≠ b → (TX9 a).2.1 ≠ (TX9 b).2.1 := by decide +kernel
theorem tyX9_ok : ∀ k, k < 4 → parseFieldDescriptor (TX9 k).2.2.1 = some (tyX9 k) := by decide +kernel
abbrev cX9_init : ByteArray := prog_11_method_1_code
def yX9_init : MethodName := ⟨RX9, "<init>", "()V"⟩
abbrev cX9_may : ByteArray := prog_11_method_2_code
def yX9_may : MethodName := ⟨RX9, "may", "(II)Z"⟩
abbrev cX9_has : ByteArray := prog_11_method_3_code
def yX9_has : MethodName := ⟨RX9, "has", "(II)Z"⟩
abbrev cX9_value : ByteArray := prog_11_method_4_code
def yX9_value : MethodName := ⟨RX9, "value", "(II)I"⟩
abbrev cX9_become : ByteArray := prog_11_method_5_code
def yX9_become : MethodName := ⟨RX9, "become", "(III)V"⟩
abbrev cX9_add : ByteArray := prog_11_method_6_code
def yX9_add : MethodName := ⟨RX9, "add", "(IIII)I"⟩
abbrev cX9_obey : ByteArray := prog_11_method_7_code
def yX9_obey : MethodName := ⟨RX9, "obey", "(LBackHouse$Reader;)V"⟩
abbrev cX9_sets : ByteArray := prog_11_method_8_code
def yX9_sets : MethodName := ⟨RX9, "sets", "()I"⟩
abbrev cX9_knows : ByteArray := prog_11_method_9_code
def yX9_knows : MethodName := ⟨RX9, "knows", "(I)Z"⟩
abbrev cX9_worthOf : ByteArray := prog_11_method_10_code
def yX9_worthOf : MethodName := ⟨RX9, "worthOf", "(I)I"⟩
abbrev cX9_minutesTo : ByteArray := prog_11_method_11_code
def yX9_minutesTo : MethodName := ⟨RX9, "minutesTo", "(I)I"⟩
abbrev cX9_minutesAloud : ByteArray := prog_11_method_12_code
def yX9_minutesAloud : MethodName := ⟨RX9, "minutesAloud", "(II)I"⟩
abbrev cX9_broughtBy : ByteArray := prog_11_method_13_code
def yX9_broughtBy : MethodName := ⟨RX9, "broughtBy", "(I)I"⟩
def RX10 : String := "BackHouse"
def TX10 : u_T := fun k => match k with
  | 0 => ("BackHouse", "world", "LBackHouse$World;", true)
  | 1 => ("BackHouse", "changes", "LBackHouse$Changes;", true)
  | 2 => ("BackHouse", "reader", "LBackHouse$Reader;", true)
  | 3 => ("BackHouse", "thought", "LBackHouse$Drive;", true)
  | 4 => ("BackHouse", "table", "LBackHouse$Table;", true)
  | 5 => ("BackHouse", "draw", "LBackHouse$Draw;", true)
  | 6 => ("BackHouse", "journey", "LBackHouse$Journey;", true)
  | 7 => ("BackHouse", "acts", "LBackHouse$Acts;", true)
  | _ => ("BackHouse", "shelves", "[LBackHouse$Shelf;", true)
def tyX10 : Nat → FieldType := fun k => match k with
  | 0 => .object "BackHouse$World"
  | 1 => .object "BackHouse$Changes"
  | 2 => .object "BackHouse$Reader"
  | 3 => .object "BackHouse$Drive"
  | 4 => .object "BackHouse$Table"
  | 5 => .object "BackHouse$Draw"
  | 6 => .object "BackHouse$Journey"
  | 7 => .object "BackHouse$Acts"
  | _ => .array (.object "BackHouse$Shelf")
abbrev wsX100 : List Cond := u_ws RX10 TX10 9
theorem nmX10 : ∀ a, a < 9 → ∀ b, b < 9 → a ≠ b → (TX10 a).2.1 ≠ (TX10 b).2.1 := by decide +kernel
theorem tyX10_ok : ∀ k, k < 9 → parseFieldDescriptor (TX10 k).2.2.1 = some (tyX10 k) := by decide +kernel
abbrev cX10_init : ByteArray := prog_1_method_1_code
def yX10_init : MethodName := ⟨RX10, "<init>", "()V"⟩
abbrev cX10_thing : ByteArray := prog_1_method_2_code
def yX10_thing : MethodName := ⟨RX10, "thing", "(II)I"⟩
abbrev cX10_things : ByteArray := prog_1_method_3_code
def yX10_things : MethodName := ⟨RX10, "things", "(III)I"⟩
abbrev cX10_mend : ByteArray := prog_1_method_4_code
def yX10_mend : MethodName := ⟨RX10, "mend", "(III)I"⟩
abbrev cX10_of : ByteArray := prog_1_method_5_code
def yX10_of : MethodName := ⟨RX10, "of", "(II)I"⟩
abbrev cX10_feed : ByteArray := prog_1_method_6_code
def yX10_feed : MethodName := ⟨RX10, "feed", "(I)I"⟩
abbrev cX10_law : ByteArray := prog_1_method_7_code
def yX10_law : MethodName := ⟨RX10, "law", "()I"⟩
abbrev cX10_drive : ByteArray := prog_1_method_8_code
def yX10_drive : MethodName := ⟨RX10, "drive", "(II)I"⟩
abbrev cX10_going : ByteArray := prog_1_method_9_code
def yX10_going : MethodName := ⟨RX10, "going", "(III)I"⟩
abbrev cX10_mean : ByteArray := prog_1_method_10_code
def yX10_mean : MethodName := ⟨RX10, "mean", "(I)J"⟩
abbrev cX10_likely : ByteArray := prog_1_method_11_code
def yX10_likely : MethodName := ⟨RX10, "likely", "(II)J"⟩
abbrev cX10_aloud : ByteArray := prog_1_method_12_code
def yX10_aloud : MethodName := ⟨RX10, "aloud", "(II)I"⟩
abbrev cX10_who : ByteArray := prog_1_method_13_code
def yX10_who : MethodName := ⟨RX10, "who", "(I)I"⟩
abbrev cX10_doorstep : ByteArray := prog_1_method_14_code
def yX10_doorstep : MethodName := ⟨RX10, "doorstep", "(I)J"⟩
abbrev cX10_list : ByteArray := prog_1_method_15_code
def yX10_list : MethodName := ⟨RX10, "list", "(II)J"⟩
abbrev cX10_onWith : ByteArray := prog_1_method_16_code
def yX10_onWith : MethodName := ⟨RX10, "onWith", "(I)I"⟩
abbrev cX10_judge : ByteArray := prog_1_method_17_code
def yX10_judge : MethodName := ⟨RX10, "judge", "(II)I"⟩
abbrev cX10_which : ByteArray := prog_1_method_18_code
def yX10_which : MethodName := ⟨RX10, "which", "(II)I"⟩
abbrev cX10_first : ByteArray := prog_1_method_19_code
def yX10_first : MethodName := ⟨RX10, "first", "(I)I"⟩
abbrev cX10_chain : ByteArray := prog_1_method_20_code
def yX10_chain : MethodName := ⟨RX10, "chain", "(I)I"⟩
abbrev cX10_drawn : ByteArray := prog_1_method_21_code
def yX10_drawn : MethodName := ⟨RX10, "drawn", "(III)I"⟩
abbrev cX10_lock : ByteArray := prog_1_method_22_code
def yX10_lock : MethodName := ⟨RX10, "lock", "(I)I"⟩
abbrev cX10_on : ByteArray := prog_1_method_23_code
def yX10_on : MethodName := ⟨RX10, "on", "()I"⟩
abbrev cX10_led : ByteArray := prog_1_method_24_code
def yX10_led : MethodName := ⟨RX10, "led", "(I)I"⟩
abbrev cX10_image : ByteArray := prog_1_method_25_code
def yX10_image : MethodName := ⟨RX10, "image", "()I"⟩
abbrev cX10_back : ByteArray := prog_1_method_26_code
def yX10_back : MethodName := ⟨RX10, "back", "()I"⟩
abbrev cX10_undo : ByteArray := prog_1_method_27_code
def yX10_undo : MethodName := ⟨RX10, "undo", "()I"⟩
abbrev cX10_redo : ByteArray := prog_1_method_28_code
def yX10_redo : MethodName := ⟨RX10, "redo", "()I"⟩
abbrev cX10_body : ByteArray := prog_1_method_29_code
def yX10_body : MethodName := ⟨RX10, "body", "(I)I"⟩
abbrev cX10_act : ByteArray := prog_1_method_30_code
def yX10_act : MethodName := ⟨RX10, "act", "(III)I"⟩
abbrev cX10_trace : ByteArray := prog_1_method_31_code
def yX10_trace : MethodName := ⟨RX10, "trace", "(I)I"⟩
abbrev cX10_keep : ByteArray := prog_1_method_32_code
def yX10_keep : MethodName := ⟨RX10, "keep", "(II)I"⟩
abbrev cX10_row : ByteArray := prog_1_method_33_code
def yX10_row : MethodName := ⟨RX10, "row", "(III)I"⟩
abbrev cX10_put : ByteArray := prog_1_method_34_code
def yX10_put : MethodName := ⟨RX10, "put", "(IIJ)I"⟩
abbrev cX10_element : ByteArray := prog_1_method_35_code
def yX10_element : MethodName := ⟨RX10, "element", "(II)J"⟩
abbrev cX10_shift : ByteArray := prog_1_method_36_code
def yX10_shift : MethodName := ⟨RX10, "shift", "(IIIII)I"⟩
abbrev cX10_taken : ByteArray := prog_1_method_37_code
def yX10_taken : MethodName := ⟨RX10, "taken", "(II)I"⟩
abbrev cX10_count : ByteArray := prog_1_method_38_code
def yX10_count : MethodName := ⟨RX10, "count", "(I)I"⟩
abbrev cX10_shelfAt : ByteArray := prog_1_method_39_code
def yX10_shelfAt : MethodName := ⟨RX10, "shelfAt", "(I)LBackHouse$Shelf;"⟩
abbrev cX10_thingCame : ByteArray := prog_1_method_40_code
def yX10_thingCame : MethodName := ⟨RX10, "thingCame", "(LBackHouse$Shelf;I)Z"⟩
abbrev cX10_firstUntrue : ByteArray := prog_1_method_41_code
def yX10_firstUntrue : MethodName := ⟨RX10, "firstUntrue", "(LBackHouse$Shelf;LBackHouse$Drive;)I"⟩
def RX11 : String := "BackHouseModel"
def TX11 : u_T := fun k => match k with
  | 0 => ("BackHouseModel", "code", "I", false)
  | 1 => ("BackHouseModel", "things", "I", false)
  | 2 => ("BackHouseModel", "whose", "[I", true)
  | 3 => ("BackHouseModel", "chance", "[I", true)
  | 4 => ("BackHouseModel", "stop", "[I", true)
  | 5 => ("BackHouseModel", "worth1", "[I", true)
  | 6 => ("BackHouseModel", "setsOff", "[I", true)
  | 7 => ("BackHouseModel", "pace", "[I", true)
  | 8 => ("BackHouseModel", "way", "[I", true)
  | 9 => ("BackHouseModel", "price", "I", false)
  | 10 => ("BackHouseModel", "doneMany", "I", false)
  | 11 => ("BackHouseModel", "undoneMany", "I", false)
  | 12 => ("BackHouseModel", "changeOf", "[I", true)
  | 13 => ("BackHouseModel", "changeAt", "[I", true)
  | 14 => ("BackHouseModel", "before", "[I", true)
  | 15 => ("BackHouseModel", "behind", "[I", true)
  | 16 => ("BackHouseModel", "tape", "[B", true)
  | 17 => ("BackHouseModel", "taped", "I", false)
  | 18 => ("BackHouseModel", "here", "I", false)
  | 19 => ("BackHouseModel", "fault", "I", false)
  | 20 => ("BackHouseModel", "open", "I", false)
  | 21 => ("BackHouseModel", "laid", "I", false)
  | 22 => ("BackHouseModel", "act", "[B", true)
  | 23 => ("BackHouseModel", "with", "[I", true)
  | 24 => ("BackHouseModel", "lineMany", "[I", true)
  | 25 => ("BackHouseModel", "testEnd", "[S", true)
  | 26 => ("BackHouseModel", "lineEnd", "[S", true)
  | 27 => ("BackHouseModel", "facts", "[I", true)
  | 28 => ("BackHouseModel", "pile", "[I", true)
  | 29 => ("BackHouseModel", "hasLaw", "Z", false)
  | 30 => ("BackHouseModel", "forgotten", "I", false)
  | 31 => ("BackHouseModel", "had", "I", false)
  | 32 => ("BackHouseModel", "leftAll", "I", false)
  | 33 => ("BackHouseModel", "minutes", "I", false)
  | 34 => ("BackHouseModel", "goings", "I", false)
  | 35 => ("BackHouseModel", "turns1", "I", false)
  | 36 => ("BackHouseModel", "lastTurn", "I", false)
  | 37 => ("BackHouseModel", "goingWho", "[I", true)
  | 38 => ("BackHouseModel", "goingThing", "[I", true)
  | 39 => ("BackHouseModel", "goingMinutes", "[I", true)
  | 40 => ("BackHouseModel", "costs", "[I", true)
  | 41 => ("BackHouseModel", "drawn1", "I", false)
  | 42 => ("BackHouseModel", "deed", "[I", true)
  | 43 => ("BackHouseModel", "kept", "[I", true)
  | 44 => ("BackHouseModel", "hasImage", "Z", false)
  | 45 => ("BackHouseModel", "bodies", "I", false)
  | 46 => ("BackHouseModel", "kind", "[I", true)
  | 47 => ("BackHouseModel", "traces", "I", false)
  | 48 => ("BackHouseModel", "traced", "[I", true)
  | 49 => ("BackHouseModel", "holds", "[I", true)
  | 50 => ("BackHouseModel", "size", "[I", true)
  | 51 => ("BackHouseModel", "elements", "[J", true)
  | _ => ("BackHouseModel", "shifted", "[J", true)
def tyX11 : Nat → FieldType := fun k => match k with
  | 0 => .int
  | 1 => .int
  | 2 => .array .int
  | 3 => .array .int
  | 4 => .array .int
  | 5 => .array .int
  | 6 => .array .int
  | 7 => .array .int
  | 8 => .array .int
  | 9 => .int
  | 10 => .int
  | 11 => .int
  | 12 => .array .int
  | 13 => .array .int
  | 14 => .array .int
  | 15 => .array .int
  | 16 => .array .byte
  | 17 => .int
  | 18 => .int
  | 19 => .int
  | 20 => .int
  | 21 => .int
  | 22 => .array .byte
  | 23 => .array .int
  | 24 => .array .int
  | 25 => .array .short
  | 26 => .array .short
  | 27 => .array .int
  | 28 => .array .int
  | 29 => .boolean
  | 30 => .int
  | 31 => .int
  | 32 => .int
  | 33 => .int
  | 34 => .int
  | 35 => .int
  | 36 => .int
  | 37 => .array .int
  | 38 => .array .int
  | 39 => .array .int
  | 40 => .array .int
  | 41 => .int
  | 42 => .array .int
  | 43 => .array .int
  | 44 => .boolean
  | 45 => .int
  | 46 => .array .int
  | 47 => .int
  | 48 => .array .int
  | 49 => .array .int
  | 50 => .array .int
  | 51 => .array .long
  | _ => .array .long
abbrev wsX110 : List Cond := u_ws RX11 TX11 53
theorem nmX11 : ∀ a, a < 53 → ∀ b, b < 53 → a ≠ b → (TX11 a).2.1 ≠ (TX11 b).2.1 := by decide +kernel
theorem tyX11_ok : ∀ k, k < 53 → parseFieldDescriptor (TX11 k).2.2.1 = some (tyX11 k) := by decide +kernel
abbrev cX11_init : ByteArray := prog_13_method_1_code
def yX11_init : MethodName := ⟨RX11, "<init>", "()V"⟩
abbrev cX11_in : ByteArray := prog_13_method_3_code
def yX11_in : MethodName := ⟨RX11, "in", "(III)Z"⟩
abbrev cX11_bitsOf : ByteArray := prog_13_method_4_code
def yX11_bitsOf : MethodName := ⟨RX11, "bitsOf", "(I)I"⟩
abbrev cX11_isThing : ByteArray := prog_13_method_5_code
def yX11_isThing : MethodName := ⟨RX11, "isThing", "(I)Z"⟩
abbrev cX11_addThing : ByteArray := prog_13_method_6_code
def yX11_addThing : MethodName := ⟨RX11, "addThing", "(IIII)I"⟩
abbrev cX11_isThingSo : ByteArray := prog_13_method_7_code
def yX11_isThingSo : MethodName := ⟨RX11, "isThingSo", "(III)Z"⟩
abbrev cX11_thing : ByteArray := prog_13_method_8_code
def yX11_thing : MethodName := ⟨RX11, "thing", "(II)I"⟩
abbrev cX11_things : ByteArray := prog_13_method_9_code
def yX11_things : MethodName := ⟨RX11, "things", "(III)I"⟩
abbrev cX11_valueAt : ByteArray := prog_13_method_10_code
def yX11_valueAt : MethodName := ⟨RX11, "valueAt", "(II)I"⟩
abbrev cX11_lays : ByteArray := prog_13_method_11_code
def yX11_lays : MethodName := ⟨RX11, "lays", "(III)V"⟩
abbrev cX11_changes : ByteArray := prog_13_method_12_code
def yX11_changes : MethodName := ⟨RX11, "changes", "(III)I"⟩
abbrev cX11_undo : ByteArray := prog_13_method_13_code
def yX11_undo : MethodName := ⟨RX11, "undo", "()I"⟩
abbrev cX11_redo : ByteArray := prog_13_method_14_code
def yX11_redo : MethodName := ⟨RX11, "redo", "()I"⟩
abbrev cX11_isOne : ByteArray := prog_13_method_15_code
def yX11_isOne : MethodName := ⟨RX11, "isOne", "(II)Z"⟩
abbrev cX11_mayBe : ByteArray := prog_13_method_16_code
def yX11_mayBe : MethodName := ⟨RX11, "mayBe", "(II)Z"⟩
abbrev cX11_mend : ByteArray := prog_13_method_17_code
def yX11_mend : MethodName := ⟨RX11, "mend", "(III)I"⟩
abbrev cX11_of : ByteArray := prog_13_method_18_code
def yX11_of : MethodName := ⟨RX11, "of", "(II)I"⟩
abbrev cX11_feed : ByteArray := prog_13_method_19_code
def yX11_feed : MethodName := ⟨RX11, "feed", "(I)I"⟩
abbrev cX11_look : ByteArray := prog_13_method_20_code
def yX11_look : MethodName := ⟨RX11, "look", "()I"⟩
abbrev cX11_faulty : ByteArray := prog_13_method_21_code
def yX11_faulty : MethodName := ⟨RX11, "faulty", "()V"⟩
abbrev cX11_addStep : ByteArray := prog_13_method_22_code
def yX11_addStep : MethodName := ⟨RX11, "addStep", "(II)V"⟩
abbrev cX11_nameOf : ByteArray := prog_13_method_23_code
def yX11_nameOf : MethodName := ⟨RX11, "nameOf", "(I)I"⟩
abbrev cX11_opens : ByteArray := prog_13_method_24_code
def yX11_opens : MethodName := ⟨RX11, "opens", "()Z"⟩
abbrev cX11_figure : ByteArray := prog_13_method_25_code
def yX11_figure : MethodName := ⟨RX11, "figure", "()V"⟩
abbrev cX11_operand : ByteArray := prog_13_method_26_code
def yX11_operand : MethodName := ⟨RX11, "operand", "()V"⟩
abbrev cX11_product : ByteArray := prog_13_method_27_code
def yX11_product : MethodName := ⟨RX11, "product", "()V"⟩
abbrev cX11_sum : ByteArray := prog_13_method_28_code
def yX11_sum : MethodName := ⟨RX11, "sum", "()V"⟩
abbrev cX11_compared : ByteArray := prog_13_method_29_code
def yX11_compared : MethodName := ⟨RX11, "compared", "()V"⟩
abbrev cX11_both : ByteArray := prog_13_method_30_code
def yX11_both : MethodName := ⟨RX11, "both", "()V"⟩
abbrev cX11_either : ByteArray := prog_13_method_31_code
def yX11_either : MethodName := ⟨RX11, "either", "()V"⟩
abbrev cX11_line : ByteArray := prog_13_method_32_code
def yX11_line : MethodName := ⟨RX11, "line", "()V"⟩
abbrev cX11_readText : ByteArray := prog_13_method_33_code
def yX11_readText : MethodName := ⟨RX11, "readText", "(I)I"⟩
abbrev cX11_twoOf : ByteArray := prog_13_method_34_code
def yX11_twoOf : MethodName := ⟨RX11, "twoOf", "(III)I"⟩
abbrev cX11_worked : ByteArray := prog_13_method_35_code
def yX11_worked : MethodName := ⟨RX11, "worked", "(III)I"⟩
abbrev cX11_gives : ByteArray := prog_13_method_36_code
def yX11_gives : MethodName := ⟨RX11, "gives", "(I)I"⟩
abbrev cX11_law : ByteArray := prog_13_method_37_code
def yX11_law : MethodName := ⟨RX11, "law", "()I"⟩
abbrev cX11_goingTakes : ByteArray := prog_13_method_38_code
def yX11_goingTakes : MethodName := ⟨RX11, "goingTakes", "(IIIII)I"⟩
abbrev cX11_begin : ByteArray := prog_13_method_39_code
def yX11_begin : MethodName := ⟨RX11, "begin", "(I)V"⟩
abbrev cX11_allThings : ByteArray := prog_13_method_40_code
def yX11_allThings : MethodName := ⟨RX11, "allThings", "()I"⟩
abbrev cX11_comesAt : ByteArray := prog_13_method_41_code
def yX11_comesAt : MethodName := ⟨RX11, "comesAt", "(I)I"⟩
abbrev cX11_worthOf : ByteArray := prog_13_method_42_code
def yX11_worthOf : MethodName := ⟨RX11, "worthOf", "(I)I"⟩
abbrev cX11_toHouse : ByteArray := prog_13_method_43_code
def yX11_toHouse : MethodName := ⟨RX11, "toHouse", "(I)I"⟩
abbrev cX11_goFor : ByteArray := prog_13_method_44_code
def yX11_goFor : MethodName := ⟨RX11, "goFor", "(II)V"⟩
abbrev cX11_stopAt : ByteArray := prog_13_method_45_code
def yX11_stopAt : MethodName := ⟨RX11, "stopAt", "(I)V"⟩
abbrev cX11_goDrive : ByteArray := prog_13_method_46_code
def yX11_goDrive : MethodName := ⟨RX11, "goDrive", "(I)V"⟩
abbrev cX11_costNow : ByteArray := prog_13_method_47_code
def yX11_costNow : MethodName := ⟨RX11, "costNow", "()I"⟩
abbrev cX11_isTold : ByteArray := prog_13_method_48_code
def yX11_isTold : MethodName := ⟨RX11, "isTold", "(I)Z"⟩
abbrev cX11_drive : ByteArray := prog_13_method_49_code
def yX11_drive : MethodName := ⟨RX11, "drive", "(II)I"⟩
abbrev cX11_going : ByteArray := prog_13_method_50_code
def yX11_going : MethodName := ⟨RX11, "going", "(III)I"⟩
abbrev cX11_findCosts : ByteArray := prog_13_method_51_code
def yX11_findCosts : MethodName := ⟨RX11, "findCosts", "()V"⟩
abbrev cX11_likelyOf : ByteArray := prog_13_method_52_code
def yX11_likelyOf : MethodName := ⟨RX11, "likelyOf", "(I)J"⟩
abbrev cX11_power : ByteArray := prog_13_method_53_code
def yX11_power : MethodName := ⟨RX11, "power", "(I)J"⟩
abbrev cX11_asPart : ByteArray := prog_13_method_54_code
def yX11_asPart : MethodName := ⟨RX11, "asPart", "(JJI)J"⟩
abbrev cX11_meanNow : ByteArray := prog_13_method_55_code
def yX11_meanNow : MethodName := ⟨RX11, "meanNow", "()J"⟩
abbrev cX11_isPart : ByteArray := prog_13_method_56_code
def yX11_isPart : MethodName := ⟨RX11, "isPart", "(I)Z"⟩
abbrev cX11_mean : ByteArray := prog_13_method_57_code
def yX11_mean : MethodName := ⟨RX11, "mean", "(I)J"⟩
abbrev cX11_likely : ByteArray := prog_13_method_58_code
def yX11_likely : MethodName := ⟨RX11, "likely", "(II)J"⟩
abbrev cX11_aloudBy : ByteArray := prog_13_method_59_code
def yX11_aloudBy : MethodName := ⟨RX11, "aloudBy", "(II)I"⟩
abbrev cX11_aloud : ByteArray := prog_13_method_60_code
def yX11_aloud : MethodName := ⟨RX11, "aloud", "(II)I"⟩
abbrev cX11_who : ByteArray := prog_13_method_61_code
def yX11_who : MethodName := ⟨RX11, "who", "(I)I"⟩
abbrev cX11_doorstep : ByteArray := prog_13_method_62_code
def yX11_doorstep : MethodName := ⟨RX11, "doorstep", "(I)J"⟩
abbrev cX11_meanBy : ByteArray := prog_13_method_63_code
def yX11_meanBy : MethodName := ⟨RX11, "meanBy", "(I)J"⟩
abbrev cX11_list : ByteArray := prog_13_method_64_code
def yX11_list : MethodName := ⟨RX11, "list", "(II)J"⟩
abbrev cX11_onWith : ByteArray := prog_13_method_65_code
def yX11_onWith : MethodName := ⟨RX11, "onWith", "(I)I"⟩
abbrev cX11_rowFault : ByteArray := prog_13_method_66_code
def yX11_rowFault : MethodName := ⟨RX11, "rowFault", "(I)I"⟩
abbrev cX11_wrongIn : ByteArray := prog_13_method_67_code
def yX11_wrongIn : MethodName := ⟨RX11, "wrongIn", "(II)I"⟩
abbrev cX11_judge : ByteArray := prog_13_method_68_code
def yX11_judge : MethodName := ⟨RX11, "judge", "(II)I"⟩
abbrev cX11_which : ByteArray := prog_13_method_69_code
def yX11_which : MethodName := ⟨RX11, "which", "(II)I"⟩
abbrev cX11_first : ByteArray := prog_13_method_70_code
def yX11_first : MethodName := ⟨RX11, "first", "(I)I"⟩
abbrev cX11_chain : ByteArray := prog_13_method_71_code
def yX11_chain : MethodName := ⟨RX11, "chain", "(I)I"⟩
abbrev cX11_drawSet : ByteArray := prog_13_method_72_code
def yX11_drawSet : MethodName := ⟨RX11, "drawSet", "()I"⟩
abbrev cX11_drawn : ByteArray := prog_13_method_73_code
def yX11_drawn : MethodName := ⟨RX11, "drawn", "(III)I"⟩
abbrev cX11_layDeed : ByteArray := prog_13_method_74_code
def yX11_layDeed : MethodName := ⟨RX11, "layDeed", "()V"⟩
abbrev cX11_takeDeed : ByteArray := prog_13_method_75_code
def yX11_takeDeed : MethodName := ⟨RX11, "takeDeed", "()V"⟩
abbrev cX11_lock : ByteArray := prog_13_method_76_code
def yX11_lock : MethodName := ⟨RX11, "lock", "(I)I"⟩
abbrev cX11_on : ByteArray := prog_13_method_77_code
def yX11_on : MethodName := ⟨RX11, "on", "()I"⟩
abbrev cX11_led : ByteArray := prog_13_method_78_code
def yX11_led : MethodName := ⟨RX11, "led", "(I)I"⟩
abbrev cX11_image : ByteArray := prog_13_method_79_code
def yX11_image : MethodName := ⟨RX11, "image", "()I"⟩
abbrev cX11_back : ByteArray := prog_13_method_80_code
def yX11_back : MethodName := ⟨RX11, "back", "()I"⟩
abbrev cX11_isBody : ByteArray := prog_13_method_81_code
def yX11_isBody : MethodName := ⟨RX11, "isBody", "(I)Z"⟩
abbrev cX11_ran : ByteArray := prog_13_method_82_code
def yX11_ran : MethodName := ⟨RX11, "ran", "(I)V"⟩
abbrev cX11_trace : ByteArray := prog_13_method_83_code
def yX11_trace : MethodName := ⟨RX11, "trace", "(I)I"⟩
abbrev cX11_body : ByteArray := prog_13_method_84_code
def yX11_body : MethodName := ⟨RX11, "body", "(I)I"⟩
abbrev cX11_isUnder : ByteArray := prog_13_method_85_code
def yX11_isUnder : MethodName := ⟨RX11, "isUnder", "(II)Z"⟩
abbrev cX11_plainGoes : ByteArray := prog_13_method_86_code
def yX11_plainGoes : MethodName := ⟨RX11, "plainGoes", "(II)I"⟩
abbrev cX11_leftGoes : ByteArray := prog_13_method_87_code
def yX11_leftGoes : MethodName := ⟨RX11, "leftGoes", "(II)I"⟩
abbrev cX11_goesOf : ByteArray := prog_13_method_88_code
def yX11_goesOf : MethodName := ⟨RX11, "goesOf", "(II)I"⟩
abbrev cX11_plainFinds : ByteArray := prog_13_method_89_code
def yX11_plainFinds : MethodName := ⟨RX11, "plainFinds", "(II)I"⟩
abbrev cX11_longFinds : ByteArray := prog_13_method_90_code
def yX11_longFinds : MethodName := ⟨RX11, "longFinds", "(II)I"⟩
abbrev cX11_finding : ByteArray := prog_13_method_91_code
def yX11_finding : MethodName := ⟨RX11, "finding", "(II)I"⟩
abbrev cX11_plainSets : ByteArray := prog_13_method_92_code
def yX11_plainSets : MethodName := ⟨RX11, "plainSets", "(II)I"⟩
abbrev cX11_offSets : ByteArray := prog_13_method_93_code
def yX11_offSets : MethodName := ⟨RX11, "offSets", "(II)I"⟩
abbrev cX11_setting : ByteArray := prog_13_method_94_code
def yX11_setting : MethodName := ⟨RX11, "setting", "(II)I"⟩
abbrev cX11_plainTells : ByteArray := prog_13_method_95_code
def yX11_plainTells : MethodName := ⟨RX11, "plainTells", "(II)I"⟩
abbrev cX11_telling : ByteArray := prog_13_method_96_code
def yX11_telling : MethodName := ⟨RX11, "telling", "(II)I"⟩
abbrev cX11_act : ByteArray := prog_13_method_97_code
def yX11_act : MethodName := ⟨RX11, "act", "(III)I"⟩
abbrev cX11_count : ByteArray := prog_13_method_98_code
def yX11_count : MethodName := ⟨RX11, "count", "(I)I"⟩
abbrev cX11_isShelf : ByteArray := prog_13_method_99_code
def yX11_isShelf : MethodName := ⟨RX11, "isShelf", "(I)Z"⟩
abbrev cX11_keep : ByteArray := prog_13_method_100_code
def yX11_keep : MethodName := ⟨RX11, "keep", "(II)I"⟩
abbrev cX11_row : ByteArray := prog_13_method_101_code
def yX11_row : MethodName := ⟨RX11, "row", "(III)I"⟩
abbrev cX11_whyNoPlace : ByteArray := prog_13_method_102_code
def yX11_whyNoPlace : MethodName := ⟨RX11, "whyNoPlace", "(II)I"⟩
abbrev cX11_put : ByteArray := prog_13_method_103_code
def yX11_put : MethodName := ⟨RX11, "put", "(IIJ)I"⟩
abbrev cX11_element : ByteArray := prog_13_method_104_code
def yX11_element : MethodName := ⟨RX11, "element", "(II)J"⟩
abbrev cX11_shift : ByteArray := prog_13_method_105_code
def yX11_shift : MethodName := ⟨RX11, "shift", "(IIIII)I"⟩
abbrev cX11_taken : ByteArray := prog_13_method_106_code
def yX11_taken : MethodName := ⟨RX11, "taken", "(II)I"⟩
def RJ6 : String := "java/lang/Integer"
def TJ6 : u_T := fun k => match k with
  | _ => ("", "", "", false)
def tyJ6 : Nat → FieldType := fun k => match k with
  | _ => .int
abbrev wsJ60 : List Cond := u_ws RJ6 TJ6 0
theorem nmJ6 : ∀ a, a < 0 → ∀ b, b < 0 → a ≠ b → (TJ6 a).2.1 ≠ (TJ6 b).2.1 := by decide +kernel
theorem tyJ6_ok : ∀ k, k < 0 → parseFieldDescriptor (TJ6 k).2.2.1 = some (tyJ6 k) := by decide +kernel
abbrev cJ6_bitCount_0f7a4 : ByteArray := prog_14_method_49_code
def yJ6_bitCount_0f7a4 : MethodName := ⟨RJ6, "bitCount", "(I)I"⟩
def RJ9 : String := "java/lang/Math"
def TJ9 : u_T := fun k => match k with
  | _ => ("", "", "", false)
def tyJ9 : Nat → FieldType := fun k => match k with
  | _ => .int
abbrev wsJ90 : List Cond := u_ws RJ9 TJ9 0
theorem nmJ9 : ∀ a, a < 0 → ∀ b, b < 0 → a ≠ b → (TJ9 a).2.1 ≠ (TJ9 b).2.1 := by decide +kernel
theorem tyJ9_ok : ∀ k, k < 0 → parseFieldDescriptor (TJ9 k).2.2.1 = some (tyJ9 k) := by decide +kernel
abbrev cJ9_max_7cf53 : ByteArray := prog_15_method_65_code
def yJ9_max_7cf53 : MethodName := ⟨RJ9, "max", "(II)I"⟩
abbrev cJ9_min_7cf53 : ByteArray := prog_15_method_69_code
def yJ9_min_7cf53 : MethodName := ⟨RJ9, "min", "(II)I"⟩
abbrev cJ9_min_f86c9 : ByteArray := prog_15_method_70_code
def yJ9_min_f86c9 : MethodName := ⟨RJ9, "min", "(JJ)J"⟩
def RJ10 : String := "java/lang/System"
def TJ10 : u_T := fun k => match k with
  | _ => ("", "", "", false)
def tyJ10 : Nat → FieldType := fun k => match k with
  | _ => .int
abbrev wsJ100 : List Cond := u_ws RJ10 TJ10 0
theorem nmJ10 : ∀ a, a < 0 → ∀ b, b < 0 → a ≠ b → (TJ10 a).2.1 ≠ (TJ10 b).2.1 := by decide +kernel
theorem tyJ10_ok : ∀ k, k < 0 → parseFieldDescriptor (TJ10 k).2.2.1 = some (tyJ10 k) := by decide +kernel
def RL : String := "BackHouseLaw"
abbrev cL_law : ByteArray := code
def yL_law : MethodName := ⟨RL, "law", "([I)Z"⟩
abbrev vwCl : List vw_C := [(RX0, TX0, 4), (RX1, TX1, 6), (RX2, TX2, 1), (RX3, TX3, 13), (RX4, TX4, 7), (RX5, TX5, 5), (RX6, TX6, 7), (RX7, TX7, 5), (RX8, TX8, 8), (RX9, TX9, 4), (RX10, TX10, 9), (RX11, TX11, 53)]
/-- all words that hold wherever a method of ours runs -/
def WU : List Cond := lw_tbl.filter goodWord
theorem WU_tbl : ∀ w ∈ WU, w ∈ lw_tbl := fun _ h => (List.mem_filter.mp h).1
theorem WU_good : ∀ w ∈ WU, goodWord w = true := fun _ h => (List.mem_filter.mp h).2
theorem WU_of {w : Cond} (h : w ∈ lw_tbl) (hg : goodWord w = true) : w ∈ WU := List.mem_filter.mpr ⟨h, hg⟩
theorem goodIn_WU {big : List Cond} {w0 : Cond} (h0 : w0 ∈ big) (hg : goodWord w0 = true) (h : ∀ w ∈ WU, w ∈ big) : GoodIn big (w0 :: WU) := fun w hw => by
  rcases List.mem_cons.mp hw with rfl | hw
  · exact ⟨h0, good_of_word hg⟩
  · exact ⟨h w hw, good_of_word (WU_good w hw)⟩
theorem mT1 {w : Cond} (h : w ∈ tables_1_1) : w ∈ lw_tbl := List.mem_append_right _ (List.mem_append_left _ h)
theorem mT2 {w : Cond} (h : w ∈ tables_1_2) : w ∈ lw_tbl := List.mem_append_right _ (List.mem_append_right _ (List.mem_append_left _ h))
theorem mT3 {w : Cond} (h : w ∈ tables_1_3) : w ∈ lw_tbl := List.mem_append_right _ (List.mem_append_right _ (List.mem_append_right _ (List.mem_append_left _ h)))
theorem mT4 {w : Cond} (h : w ∈ tables_1_4) : w ∈ lw_tbl := List.mem_append_right _ (List.mem_append_right _ (List.mem_append_right _ (List.mem_append_right _ (List.mem_append_left _ h))))
theorem mT5 {w : Cond} (h : w ∈ tables_1_5) : w ∈ lw_tbl := List.mem_append_right _ (List.mem_append_right _ (List.mem_append_right _ (List.mem_append_right _ (List.mem_append_right _ (List.mem_append_left _ h)))))
theorem mT6 {w : Cond} (h : w ∈ tables_1_6) : w ∈ lw_tbl := List.mem_append_right _ (List.mem_append_right _ (List.mem_append_right _ (List.mem_append_right _ (List.mem_append_right _ (List.mem_append_right _ (List.mem_append_left _ h))))))
theorem mT7 {w : Cond} (h : w ∈ tables_1_7) : w ∈ lw_tbl := List.mem_append_right _ (List.mem_append_right _ (List.mem_append_right _ (List.mem_append_right _ (List.mem_append_right _ (List.mem_append_right _ (List.mem_append_right _ h))))))
theorem mTp {w : Cond} (h : w ∈ k2_sels lw_privs) : w ∈ lw_tbl := List.mem_append_left _ h
theorem mP1 {q : MethodName × Nat} (h : q ∈ lw_privs_1) : Cond.selects q.1.cls q.1 q.1 ∈ lw_tbl := mTp (List.mem_map.mpr ⟨q, List.mem_append_left _ h, rfl⟩)
theorem mP2 {q : MethodName × Nat} (h : q ∈ lw_privs_2) : Cond.selects q.1.cls q.1 q.1 ∈ lw_tbl := mTp (List.mem_map.mpr ⟨q, List.mem_append_right _ (List.mem_append_left _ h), rfl⟩)
theorem mP3 {q : MethodName × Nat} (h : q ∈ lw_privs_3) : Cond.selects q.1.cls q.1 q.1 ∈ lw_tbl := mTp (List.mem_map.mpr ⟨q, List.mem_append_right _ (List.mem_append_right _ (List.mem_append_left _ h)), rfl⟩)
theorem mP4 {q : MethodName × Nat} (h : q ∈ lw_privs_4) : Cond.selects q.1.cls q.1 q.1 ∈ lw_tbl := mTp (List.mem_map.mpr ⟨q, List.mem_append_right _ (List.mem_append_right _ (List.mem_append_right _ (List.mem_append_left _ h))), rfl⟩)
theorem mP5 {q : MethodName × Nat} (h : q ∈ lw_privs_5) : Cond.selects q.1.cls q.1 q.1 ∈ lw_tbl := mTp (List.mem_map.mpr ⟨q, List.mem_append_right _ (List.mem_append_right _ (List.mem_append_right _ (List.mem_append_right _ h))), rfl⟩)
end
section
theorem dX0_init_0 : decode cX0_init 0 = .ok (.aload_n 0, 1) := by decide +kernel
theorem dX0_init_1 : decode cX0_init 1 = .ok (.invokespecial 3, 3) := by decide +kernel
theorem dX0_init_4 : decode cX0_init 4 = .ok (.aload_n 0, 1) := by decide +kernel
theorem dX0_init_5 : decode cX0_init 5 = .ok (.bipush 50, 2) := by decide +kernel
theorem dX0_init_7 : decode cX0_init 7 = .ok (.newarray .int, 2) := by decide +kernel
theorem dX0_init_9 : decode cX0_init 9 = .ok (.putfield 11, 3) := by decide +kernel
theorem dX0_init_12 : decode cX0_init 12 = .ok (.aload_n 0, 1) := by decide +kernel
theorem dX0_init_13 : decode cX0_init 13 = .ok (.bipush 24, 2) := by decide +kernel
theorem dX0_init_15 : decode cX0_init 15 = .ok (.newarray .int, 2) := by decide +kernel
theorem dX0_init_17 : decode cX0_init 17 = .ok (.putfield 15, 3) := by decide +kernel
theorem dX0_init_20 : decode cX0_init 20 = .ok (.return_, 1) := by decide +kernel
theorem dX0_add_0 : decode cX0_add 0 = .ok (.aload_n 0, 1) := by decide +kernel
theorem dX0_add_1 : decode cX0_add 1 = .ok (.getfield 18, 3) := by decide +kernel
theorem dX0_add_4 : decode cX0_add 4 = .ok (.ifCond .lt 12, 3) := by decide +kernel
theorem dX0_add_7 : decode cX0_add 7 = .ok (.aload_n 0, 1) := by decide +kernel
theorem dX0_add_8 : decode cX0_add 8 = .ok (.getfield 18, 3) := by decide +kernel
theorem dX0_add_11 : decode cX0_add 11 = .ok (.bipush 50, 2) := by decide +kernel
theorem dX0_add_13 : decode cX0_add 13 = .ok (.if_icmp .lt 6, 3) := by decide +kernel
theorem dX0_add_16 : decode cX0_add 16 = .ok (.bipush (-3), 2) := by decide +kernel
theorem dX0_add_18 : decode cX0_add 18 = .ok (.ireturn, 1) := by decide +kernel
theorem dX0_add_19 : decode cX0_add 19 = .ok (.aload_n 0, 1) := by decide +kernel
theorem dX0_add_20 : decode cX0_add 20 = .ok (.getfield 11, 3) := by decide +kernel
theorem dX0_add_23 : decode cX0_add 23 = .ok (.aload_n 0, 1) := by decide +kernel
theorem dX0_add_24 : decode cX0_add 24 = .ok (.getfield 18, 3) := by decide +kernel
theorem dX0_add_27 : decode cX0_add 27 = .ok (.iload_n 1, 1) := by decide +kernel
theorem dX0_add_28 : decode cX0_add 28 = .ok (.iastore, 1) := by decide +kernel
theorem dX0_add_29 : decode cX0_add 29 = .ok (.aload_n 0, 1) := by decide +kernel
theorem dX0_add_30 : decode cX0_add 30 = .ok (.dup, 1) := by decide +kernel
theorem dX0_add_31 : decode cX0_add 31 = .ok (.getfield 18, 3) := by decide +kernel
theorem dX0_add_34 : decode cX0_add 34 = .ok (.iconst 1, 1) := by decide +kernel
theorem dX0_add_35 : decode cX0_add 35 = .ok (.iadd, 1) := by decide +kernel
theorem dX0_add_36 : decode cX0_add 36 = .ok (.putfield 18, 3) := by decide +kernel
theorem dX0_add_39 : decode cX0_add 39 = .ok (.aload_n 0, 1) := by decide +kernel
theorem dX0_add_40 : decode cX0_add 40 = .ok (.getfield 18, 3) := by decide +kernel
theorem dX0_add_43 : decode cX0_add 43 = .ok (.iconst 1, 1) := by decide +kernel
theorem dX0_add_44 : decode cX0_add 44 = .ok (.isub, 1) := by decide +kernel
theorem dX0_add_45 : decode cX0_add 45 = .ok (.ireturn, 1) := by decide +kernel
theorem dX0_has_0 : decode cX0_has 0 = .ok (.iload_n 1, 1) := by decide +kernel
theorem dX0_has_1 : decode cX0_has 1 = .ok (.ifCond .lt 21, 3) := by decide +kernel
theorem dX0_has_4 : decode cX0_has 4 = .ok (.iload_n 1, 1) := by decide +kernel
theorem dX0_has_5 : decode cX0_has 5 = .ok (.aload_n 0, 1) := by decide +kernel
theorem dX0_has_6 : decode cX0_has 6 = .ok (.getfield 18, 3) := by decide +kernel
theorem dX0_has_9 : decode cX0_has 9 = .ok (.if_icmp .ge 13, 3) := by decide +kernel
theorem dX0_has_12 : decode cX0_has 12 = .ok (.iload_n 1, 1) := by decide +kernel
theorem dX0_has_13 : decode cX0_has 13 = .ok (.bipush 50, 2) := by decide +kernel
theorem dX0_has_15 : decode cX0_has 15 = .ok (.if_icmp .ge 7, 3) := by decide +kernel
theorem dX0_has_18 : decode cX0_has 18 = .ok (.iconst 1, 1) := by decide +kernel
theorem dX0_has_19 : decode cX0_has 19 = .ok (.goto 4, 3) := by decide +kernel
theorem dX0_has_22 : decode cX0_has 22 = .ok (.iconst 0, 1) := by decide +kernel
theorem dX0_has_23 : decode cX0_has 23 = .ok (.ireturn, 1) := by decide +kernel
theorem dX0_kindOf_0 : decode cX0_kindOf 0 = .ok (.aload_n 0, 1) := by decide +kernel
theorem dX0_kindOf_1 : decode cX0_kindOf 1 = .ok (.iload_n 1, 1) := by decide +kernel
theorem dX0_kindOf_2 : decode cX0_kindOf 2 = .ok (.invokevirtual 22, 3) := by decide +kernel
theorem dX0_kindOf_5 : decode cX0_kindOf 5 = .ok (.ifCond .eq 12, 3) := by decide +kernel
theorem dX0_kindOf_8 : decode cX0_kindOf 8 = .ok (.aload_n 0, 1) := by decide +kernel
theorem dX0_kindOf_9 : decode cX0_kindOf 9 = .ok (.getfield 11, 3) := by decide +kernel
theorem dX0_kindOf_12 : decode cX0_kindOf 12 = .ok (.iload_n 1, 1) := by decide +kernel
theorem dX0_kindOf_13 : decode cX0_kindOf 13 = .ok (.iaload, 1) := by decide +kernel
theorem dX0_kindOf_14 : decode cX0_kindOf 14 = .ok (.goto 4, 3) := by decide +kernel
theorem dX0_kindOf_17 : decode cX0_kindOf 17 = .ok (.iconst (-1), 1) := by decide +kernel
theorem dX0_kindOf_18 : decode cX0_kindOf 18 = .ok (.ireturn, 1) := by decide +kernel
theorem dX0_isUnder_0 : decode cX0_isUnder 0 = .ok (.iload_n 0, 1) := by decide +kernel
theorem dX0_isUnder_1 : decode cX0_isUnder 1 = .ok (.istore_n 2, 1) := by decide +kernel
theorem dX0_isUnder_2 : decode cX0_isUnder 2 = .ok (.iconst 0, 1) := by decide +kernel
theorem dX0_isUnder_3 : decode cX0_isUnder 3 = .ok (.istore_n 3, 1) := by decide +kernel
theorem dX0_isUnder_4 : decode cX0_isUnder 4 = .ok (.iload_n 3, 1) := by decide +kernel
theorem dX0_isUnder_5 : decode cX0_isUnder 5 = .ok (.bipush 8, 2) := by decide +kernel
theorem dX0_isUnder_7 : decode cX0_isUnder 7 = .ok (.if_icmp .ge 23, 3) := by decide +kernel
theorem dX0_isUnder_10 : decode cX0_isUnder 10 = .ok (.iload_n 2, 1) := by decide +kernel
theorem dX0_isUnder_11 : decode cX0_isUnder 11 = .ok (.ifCond .lt 19, 3) := by decide +kernel
theorem dX0_isUnder_14 : decode cX0_isUnder 14 = .ok (.iload_n 2, 1) := by decide +kernel
theorem dX0_isUnder_15 : decode cX0_isUnder 15 = .ok (.iload_n 1, 1) := by decide +kernel
theorem dX0_isUnder_16 : decode cX0_isUnder 16 = .ok (.if_icmp .eq 14, 3) := by decide +kernel
theorem dX0_isUnder_19 : decode cX0_isUnder 19 = .ok (.iload_n 2, 1) := by decide +kernel
theorem dX0_isUnder_20 : decode cX0_isUnder 20 = .ok (.invokestatic 26, 3) := by decide +kernel
theorem dX0_isUnder_23 : decode cX0_isUnder 23 = .ok (.istore_n 2, 1) := by decide +kernel
theorem dX0_isUnder_24 : decode cX0_isUnder 24 = .ok (.iinc 3 1, 3) := by decide +kernel
theorem dX0_isUnder_27 : decode cX0_isUnder 27 = .ok (.goto (-23), 3) := by decide +kernel
theorem dX0_isUnder_30 : decode cX0_isUnder 30 = .ok (.iload_n 2, 1) := by decide +kernel
theorem dX0_isUnder_31 : decode cX0_isUnder 31 = .ok (.iload_n 1, 1) := by decide +kernel
theorem dX0_isUnder_32 : decode cX0_isUnder 32 = .ok (.if_icmp .ne 7, 3) := by decide +kernel
theorem dX0_isUnder_35 : decode cX0_isUnder 35 = .ok (.iconst 1, 1) := by decide +kernel
theorem dX0_isUnder_36 : decode cX0_isUnder 36 = .ok (.goto 4, 3) := by decide +kernel
theorem dX0_isUnder_39 : decode cX0_isUnder 39 = .ok (.iconst 0, 1) := by decide +kernel
theorem dX0_isUnder_40 : decode cX0_isUnder 40 = .ok (.ireturn, 1) := by decide +kernel
theorem dX0_aboveOf_0 : decode cX0_aboveOf 0 = .ok (.iload_n 0, 1) := by decide +kernel
theorem dX0_aboveOf_1 : decode cX0_aboveOf 1 = .ok (.ifCond .lt 19, 3) := by decide +kernel
theorem dX0_aboveOf_4 : decode cX0_aboveOf 4 = .ok (.iload_n 0, 1) := by decide +kernel
theorem dX0_aboveOf_5 : decode cX0_aboveOf 5 = .ok (.getstatic 30, 3) := by decide +kernel
theorem dX0_aboveOf_8 : decode cX0_aboveOf 8 = .ok (.arraylength, 1) := by decide +kernel
theorem dX0_aboveOf_9 : decode cX0_aboveOf 9 = .ok (.if_icmp .ge 11, 3) := by decide +kernel
theorem dX0_aboveOf_12 : decode cX0_aboveOf 12 = .ok (.getstatic 30, 3) := by decide +kernel
theorem dX0_aboveOf_15 : decode cX0_aboveOf 15 = .ok (.iload_n 0, 1) := by decide +kernel
theorem dX0_aboveOf_16 : decode cX0_aboveOf 16 = .ok (.iaload, 1) := by decide +kernel
theorem dX0_aboveOf_17 : decode cX0_aboveOf 17 = .ok (.goto 4, 3) := by decide +kernel
theorem dX0_aboveOf_20 : decode cX0_aboveOf 20 = .ok (.iconst (-1), 1) := by decide +kernel
theorem dX0_aboveOf_21 : decode cX0_aboveOf 21 = .ok (.ireturn, 1) := by decide +kernel
theorem dX0_ownBody_0 : decode cX0_ownBody 0 = .ok (.iload_n 0, 1) := by decide +kernel
theorem dX0_ownBody_1 : decode cX0_ownBody 1 = .ok (.iconst 4, 1) := by decide +kernel
theorem dX0_ownBody_2 : decode cX0_ownBody 2 = .ok (.imul, 1) := by decide +kernel
theorem dX0_ownBody_3 : decode cX0_ownBody 3 = .ok (.iload_n 1, 1) := by decide +kernel
theorem dX0_ownBody_4 : decode cX0_ownBody 4 = .ok (.iadd, 1) := by decide +kernel
theorem dX0_ownBody_5 : decode cX0_ownBody 5 = .ok (.istore_n 2, 1) := by decide +kernel
theorem dX0_ownBody_6 : decode cX0_ownBody 6 = .ok (.iload_n 2, 1) := by decide +kernel
theorem dX0_ownBody_7 : decode cX0_ownBody 7 = .ok (.ifCond .lt 19, 3) := by decide +kernel
theorem dX0_ownBody_10 : decode cX0_ownBody 10 = .ok (.iload_n 2, 1) := by decide +kernel
theorem dX0_ownBody_11 : decode cX0_ownBody 11 = .ok (.getstatic 33, 3) := by decide +kernel
theorem dX0_ownBody_14 : decode cX0_ownBody 14 = .ok (.arraylength, 1) := by decide +kernel
theorem dX0_ownBody_15 : decode cX0_ownBody 15 = .ok (.if_icmp .ge 11, 3) := by decide +kernel
theorem dX0_ownBody_18 : decode cX0_ownBody 18 = .ok (.getstatic 33, 3) := by decide +kernel
theorem dX0_ownBody_21 : decode cX0_ownBody 21 = .ok (.iload_n 2, 1) := by decide +kernel
theorem dX0_ownBody_22 : decode cX0_ownBody 22 = .ok (.iaload, 1) := by decide +kernel
theorem dX0_ownBody_23 : decode cX0_ownBody 23 = .ok (.goto 4, 3) := by decide +kernel
theorem dX0_ownBody_26 : decode cX0_ownBody 26 = .ok (.iconst 0, 1) := by decide +kernel
theorem dX0_ownBody_27 : decode cX0_ownBody 27 = .ok (.ireturn, 1) := by decide +kernel
theorem dX0_nearest_0 : decode cX0_nearest 0 = .ok (.iload_n 0, 1) := by decide +kernel
theorem dX0_nearest_1 : decode cX0_nearest 1 = .ok (.istore_n 2, 1) := by decide +kernel
theorem dX0_nearest_2 : decode cX0_nearest 2 = .ok (.iconst 0, 1) := by decide +kernel
theorem dX0_nearest_3 : decode cX0_nearest 3 = .ok (.istore_n 3, 1) := by decide +kernel
theorem dX0_nearest_4 : decode cX0_nearest 4 = .ok (.iload_n 3, 1) := by decide +kernel
theorem dX0_nearest_5 : decode cX0_nearest 5 = .ok (.bipush 8, 2) := by decide +kernel
theorem dX0_nearest_7 : decode cX0_nearest 7 = .ok (.if_icmp .ge 26, 3) := by decide +kernel
theorem dX0_nearest_10 : decode cX0_nearest 10 = .ok (.iload_n 2, 1) := by decide +kernel
theorem dX0_nearest_11 : decode cX0_nearest 11 = .ok (.ifCond .lt 22, 3) := by decide +kernel
theorem dX0_nearest_14 : decode cX0_nearest 14 = .ok (.iload_n 2, 1) := by decide +kernel
theorem dX0_nearest_15 : decode cX0_nearest 15 = .ok (.iload_n 1, 1) := by decide +kernel
theorem dX0_nearest_16 : decode cX0_nearest 16 = .ok (.invokestatic 36, 3) := by decide +kernel
theorem dX0_nearest_19 : decode cX0_nearest 19 = .ok (.ifCond .ne 14, 3) := by decide +kernel
theorem dX0_nearest_22 : decode cX0_nearest 22 = .ok (.iload_n 2, 1) := by decide +kernel
theorem dX0_nearest_23 : decode cX0_nearest 23 = .ok (.invokestatic 26, 3) := by decide +kernel
theorem dX0_nearest_26 : decode cX0_nearest 26 = .ok (.istore_n 2, 1) := by decide +kernel
theorem dX0_nearest_27 : decode cX0_nearest 27 = .ok (.iinc 3 1, 3) := by decide +kernel
theorem dX0_nearest_30 : decode cX0_nearest 30 = .ok (.goto (-26), 3) := by decide +kernel
theorem dX0_nearest_33 : decode cX0_nearest 33 = .ok (.iload_n 2, 1) := by decide +kernel
theorem dX0_nearest_34 : decode cX0_nearest 34 = .ok (.ireturn, 1) := by decide +kernel
theorem dX0_note_0 : decode cX0_note 0 = .ok (.aload_n 0, 1) := by decide +kernel
theorem dX0_note_1 : decode cX0_note 1 = .ok (.getfield 40, 3) := by decide +kernel
theorem dX0_note_4 : decode cX0_note 4 = .ok (.ifCond .lt 22, 3) := by decide +kernel
theorem dX0_note_7 : decode cX0_note 7 = .ok (.aload_n 0, 1) := by decide +kernel
theorem dX0_note_8 : decode cX0_note 8 = .ok (.getfield 40, 3) := by decide +kernel
theorem dX0_note_11 : decode cX0_note 11 = .ok (.bipush 24, 2) := by decide +kernel
theorem dX0_note_13 : decode cX0_note 13 = .ok (.if_icmp .ge 13, 3) := by decide +kernel
theorem dX0_note_16 : decode cX0_note 16 = .ok (.aload_n 0, 1) := by decide +kernel
theorem dX0_note_17 : decode cX0_note 17 = .ok (.getfield 15, 3) := by decide +kernel
theorem dX0_note_20 : decode cX0_note 20 = .ok (.aload_n 0, 1) := by decide +kernel
theorem dX0_note_21 : decode cX0_note 21 = .ok (.getfield 40, 3) := by decide +kernel
theorem dX0_note_24 : decode cX0_note 24 = .ok (.iload_n 1, 1) := by decide +kernel
theorem dX0_note_25 : decode cX0_note 25 = .ok (.iastore, 1) := by decide +kernel
theorem dX0_note_26 : decode cX0_note 26 = .ok (.aload_n 0, 1) := by decide +kernel
theorem dX0_note_27 : decode cX0_note 27 = .ok (.dup, 1) := by decide +kernel
theorem dX0_note_28 : decode cX0_note 28 = .ok (.getfield 40, 3) := by decide +kernel
theorem dX0_note_31 : decode cX0_note 31 = .ok (.iconst 1, 1) := by decide +kernel
theorem dX0_note_32 : decode cX0_note 32 = .ok (.iadd, 1) := by decide +kernel
theorem dX0_note_33 : decode cX0_note 33 = .ok (.putfield 40, 3) := by decide +kernel
theorem dX0_note_36 : decode cX0_note 36 = .ok (.return_, 1) := by decide +kernel
theorem dX0_perform_0 : decode cX0_perform 0 = .ok (.iload_n 2, 1) := by decide +kernel
theorem dX0_perform_1 : decode cX0_perform 1 = .ok (.iload_n 3, 1) := by decide +kernel
theorem dX0_perform_2 : decode cX0_perform 2 = .ok (.invokestatic 43, 3) := by decide +kernel
theorem dX0_perform_5 : decode cX0_perform 5 = .ok (.istore 6, 2) := by decide +kernel
theorem dX0_perform_7 : decode cX0_perform 7 = .ok (.iload 6, 2) := by decide +kernel
theorem dX0_perform_9 : decode cX0_perform 9 = .ok (.ifCond .lt 10, 3) := by decide +kernel
theorem dX0_perform_12 : decode cX0_perform 12 = .ok (.iload 5, 2) := by decide +kernel
theorem dX0_perform_14 : decode cX0_perform 14 = .ok (.bipush 40, 2) := by decide +kernel
theorem dX0_perform_16 : decode cX0_perform 16 = .ok (.if_icmp .lt 5, 3) := by decide +kernel
theorem dX0_perform_19 : decode cX0_perform 19 = .ok (.iconst 0, 1) := by decide +kernel
theorem dX0_perform_20 : decode cX0_perform 20 = .ok (.ireturn, 1) := by decide +kernel
theorem dX0_perform_21 : decode cX0_perform 21 = .ok (.iload 6, 2) := by decide +kernel
theorem dX0_perform_23 : decode cX0_perform 23 = .ok (.iload_n 3, 1) := by decide +kernel
theorem dX0_perform_24 : decode cX0_perform 24 = .ok (.invokestatic 36, 3) := by decide +kernel
theorem dX0_perform_27 : decode cX0_perform 27 = .ok (.istore 7, 2) := by decide +kernel
theorem dX0_perform_29 : decode cX0_perform 29 = .ok (.iload 6, 2) := by decide +kernel
theorem dX0_perform_31 : decode cX0_perform 31 = .ok (.invokestatic 26, 3) := by decide +kernel
theorem dX0_perform_34 : decode cX0_perform 34 = .ok (.istore 8, 2) := by decide +kernel
theorem dX0_perform_36 : decode cX0_perform 36 = .ok (.aload_n 0, 1) := by decide +kernel
theorem dX0_perform_37 : decode cX0_perform 37 = .ok (.iload_n 1, 1) := by decide +kernel
theorem dX0_perform_38 : decode cX0_perform 38 = .ok (.invokevirtual 46, 3) := by decide +kernel
theorem dX0_perform_41 : decode cX0_perform 41 = .ok (.istore 9, 2) := by decide +kernel
theorem dX0_perform_43 : decode cX0_perform 43 = .ok (.iload 5, 2) := by decide +kernel
theorem dX0_perform_45 : decode cX0_perform 45 = .ok (.iconst 1, 1) := by decide +kernel
theorem dX0_perform_46 : decode cX0_perform 46 = .ok (.iadd, 1) := by decide +kernel
theorem dX0_perform_47 : decode cX0_perform 47 = .ok (.istore 10, 2) := by decide +kernel
theorem dX0_perform_49 : decode cX0_perform 49 = .ok (.aload_n 0, 1) := by decide +kernel
theorem dX0_perform_50 : decode cX0_perform 50 = .ok (.iload 7, 2) := by decide +kernel
theorem dX0_perform_52 : decode cX0_perform 52 = .ok (.invokevirtual 49, 3) := by decide +kernel
theorem dX0_perform_55 : decode cX0_perform 55 = .ok (.iload 7, 2) := by decide +kernel
theorem dX0_perform_57 : decode cX0_perform 57 = .ok (.lookupswitch 342 #[(1, 123), (2, 128), (10, 153), (11, 168), (20, 173), (30, 188), (40, 202), (41, 217), (50, 232), (60, 247), (61, 272), (70, 287), (80, 302), (81, 327)], 123) := by decide +kernel
theorem dX0_perform_180 : decode cX0_perform 180 = .ok (.iload 4, 2) := by decide +kernel
theorem dX0_perform_182 : decode cX0_perform 182 = .ok (.iload_n 1, 1) := by decide +kernel
theorem dX0_perform_183 : decode cX0_perform 183 = .ok (.iadd, 1) := by decide +kernel
theorem dX0_perform_184 : decode cX0_perform 184 = .ok (.ireturn, 1) := by decide +kernel
theorem dX0_perform_185 : decode cX0_perform 185 = .ok (.aload_n 0, 1) := by decide +kernel
theorem dX0_perform_186 : decode cX0_perform 186 = .ok (.iload_n 1, 1) := by decide +kernel
theorem dX0_perform_187 : decode cX0_perform 187 = .ok (.iload 9, 2) := by decide +kernel
theorem dX0_perform_189 : decode cX0_perform 189 = .ok (.iconst 1, 1) := by decide +kernel
theorem dX0_perform_190 : decode cX0_perform 190 = .ok (.iload 4, 2) := by decide +kernel
theorem dX0_perform_192 : decode cX0_perform 192 = .ok (.iload 10, 2) := by decide +kernel
theorem dX0_perform_194 : decode cX0_perform 194 = .ok (.invokevirtual 53, 3) := by decide +kernel
theorem dX0_perform_197 : decode cX0_perform 197 = .ok (.aload_n 0, 1) := by decide +kernel
theorem dX0_perform_198 : decode cX0_perform 198 = .ok (.iload_n 1, 1) := by decide +kernel
theorem dX0_perform_199 : decode cX0_perform 199 = .ok (.iload 9, 2) := by decide +kernel
theorem dX0_perform_201 : decode cX0_perform 201 = .ok (.iconst 2, 1) := by decide +kernel
theorem dX0_perform_202 : decode cX0_perform 202 = .ok (.iconst 1, 1) := by decide +kernel
theorem dX0_perform_203 : decode cX0_perform 203 = .ok (.iload 10, 2) := by decide +kernel
theorem dX0_perform_205 : decode cX0_perform 205 = .ok (.invokevirtual 53, 3) := by decide +kernel
theorem dX0_perform_208 : decode cX0_perform 208 = .ok (.isub, 1) := by decide +kernel
theorem dX0_perform_209 : decode cX0_perform 209 = .ok (.ireturn, 1) := by decide +kernel
theorem dX0_perform_210 : decode cX0_perform 210 = .ok (.aload_n 0, 1) := by decide +kernel
theorem dX0_perform_211 : decode cX0_perform 211 = .ok (.iload_n 1, 1) := by decide +kernel
theorem dX0_perform_212 : decode cX0_perform 212 = .ok (.iload 9, 2) := by decide +kernel
theorem dX0_perform_214 : decode cX0_perform 214 = .ok (.iconst 0, 1) := by decide +kernel
theorem dX0_perform_215 : decode cX0_perform 215 = .ok (.iload 4, 2) := by decide +kernel
theorem dX0_perform_217 : decode cX0_perform 217 = .ok (.iload 10, 2) := by decide +kernel
theorem dX0_perform_219 : decode cX0_perform 219 = .ok (.invokevirtual 53, 3) := by decide +kernel
theorem dX0_perform_222 : decode cX0_perform 222 = .ok (.iconst 2, 1) := by decide +kernel
theorem dX0_perform_223 : decode cX0_perform 223 = .ok (.imul, 1) := by decide +kernel
theorem dX0_perform_224 : decode cX0_perform 224 = .ok (.ireturn, 1) := by decide +kernel
theorem dX0_perform_225 : decode cX0_perform 225 = .ok (.iload 4, 2) := by decide +kernel
theorem dX0_perform_227 : decode cX0_perform 227 = .ok (.iload_n 1, 1) := by decide +kernel
theorem dX0_perform_228 : decode cX0_perform 228 = .ok (.ixor, 1) := by decide +kernel
theorem dX0_perform_229 : decode cX0_perform 229 = .ok (.ireturn, 1) := by decide +kernel
theorem dX0_perform_230 : decode cX0_perform 230 = .ok (.aload_n 0, 1) := by decide +kernel
theorem dX0_perform_231 : decode cX0_perform 231 = .ok (.iload_n 1, 1) := by decide +kernel
theorem dX0_perform_232 : decode cX0_perform 232 = .ok (.iload 8, 2) := by decide +kernel
theorem dX0_perform_234 : decode cX0_perform 234 = .ok (.iconst 0, 1) := by decide +kernel
theorem dX0_perform_235 : decode cX0_perform 235 = .ok (.iload 4, 2) := by decide +kernel
theorem dX0_perform_237 : decode cX0_perform 237 = .ok (.iload 10, 2) := by decide +kernel
theorem dX0_perform_239 : decode cX0_perform 239 = .ok (.invokevirtual 53, 3) := by decide +kernel
theorem dX0_perform_242 : decode cX0_perform 242 = .ok (.iconst 3, 1) := by decide +kernel
theorem dX0_perform_243 : decode cX0_perform 243 = .ok (.iadd, 1) := by decide +kernel
theorem dX0_perform_244 : decode cX0_perform 244 = .ok (.ireturn, 1) := by decide +kernel
theorem dX0_perform_245 : decode cX0_perform 245 = .ok (.aload_n 0, 1) := by decide +kernel
theorem dX0_perform_246 : decode cX0_perform 246 = .ok (.iload_n 1, 1) := by decide +kernel
theorem dX0_perform_247 : decode cX0_perform 247 = .ok (.iload 8, 2) := by decide +kernel
theorem dX0_perform_249 : decode cX0_perform 249 = .ok (.iconst 1, 1) := by decide +kernel
theorem dX0_perform_250 : decode cX0_perform 250 = .ok (.iload 4, 2) := by decide +kernel
theorem dX0_perform_252 : decode cX0_perform 252 = .ok (.iload 10, 2) := by decide +kernel
theorem dX0_perform_254 : decode cX0_perform 254 = .ok (.invokevirtual 53, 3) := by decide +kernel
theorem dX0_perform_257 : decode cX0_perform 257 = .ok (.ineg, 1) := by decide +kernel
theorem dX0_perform_258 : decode cX0_perform 258 = .ok (.ireturn, 1) := by decide +kernel
theorem dX0_perform_259 : decode cX0_perform 259 = .ok (.aload_n 0, 1) := by decide +kernel
theorem dX0_perform_260 : decode cX0_perform 260 = .ok (.iload_n 1, 1) := by decide +kernel
theorem dX0_perform_261 : decode cX0_perform 261 = .ok (.iload 8, 2) := by decide +kernel
theorem dX0_perform_263 : decode cX0_perform 263 = .ok (.iconst 2, 1) := by decide +kernel
theorem dX0_perform_264 : decode cX0_perform 264 = .ok (.iload 4, 2) := by decide +kernel
theorem dX0_perform_266 : decode cX0_perform 266 = .ok (.iload 10, 2) := by decide +kernel
theorem dX0_perform_268 : decode cX0_perform 268 = .ok (.invokevirtual 53, 3) := by decide +kernel
theorem dX0_perform_271 : decode cX0_perform 271 = .ok (.iconst 3, 1) := by decide +kernel
theorem dX0_perform_272 : decode cX0_perform 272 = .ok (.imul, 1) := by decide +kernel
theorem dX0_perform_273 : decode cX0_perform 273 = .ok (.ireturn, 1) := by decide +kernel
theorem dX0_perform_274 : decode cX0_perform 274 = .ok (.aload_n 0, 1) := by decide +kernel
theorem dX0_perform_275 : decode cX0_perform 275 = .ok (.iload_n 1, 1) := by decide +kernel
theorem dX0_perform_276 : decode cX0_perform 276 = .ok (.iload 8, 2) := by decide +kernel
theorem dX0_perform_278 : decode cX0_perform 278 = .ok (.iconst 1, 1) := by decide +kernel
theorem dX0_perform_279 : decode cX0_perform 279 = .ok (.iload 4, 2) := by decide +kernel
theorem dX0_perform_281 : decode cX0_perform 281 = .ok (.iconst 1, 1) := by decide +kernel
theorem dX0_perform_282 : decode cX0_perform 282 = .ok (.iadd, 1) := by decide +kernel
theorem dX0_perform_283 : decode cX0_perform 283 = .ok (.iload 10, 2) := by decide +kernel
theorem dX0_perform_285 : decode cX0_perform 285 = .ok (.invokevirtual 53, 3) := by decide +kernel
theorem dX0_perform_288 : decode cX0_perform 288 = .ok (.ireturn, 1) := by decide +kernel
theorem dX0_perform_289 : decode cX0_perform 289 = .ok (.aload_n 0, 1) := by decide +kernel
theorem dX0_perform_290 : decode cX0_perform 290 = .ok (.iload_n 1, 1) := by decide +kernel
theorem dX0_perform_291 : decode cX0_perform 291 = .ok (.iload 8, 2) := by decide +kernel
theorem dX0_perform_293 : decode cX0_perform 293 = .ok (.iconst 3, 1) := by decide +kernel
theorem dX0_perform_294 : decode cX0_perform 294 = .ok (.iload 4, 2) := by decide +kernel
theorem dX0_perform_296 : decode cX0_perform 296 = .ok (.iload 10, 2) := by decide +kernel
theorem dX0_perform_298 : decode cX0_perform 298 = .ok (.invokevirtual 53, 3) := by decide +kernel
theorem dX0_perform_301 : decode cX0_perform 301 = .ok (.iconst 5, 1) := by decide +kernel
theorem dX0_perform_302 : decode cX0_perform 302 = .ok (.ixor, 1) := by decide +kernel
theorem dX0_perform_303 : decode cX0_perform 303 = .ok (.ireturn, 1) := by decide +kernel
theorem dX0_perform_304 : decode cX0_perform 304 = .ok (.aload_n 0, 1) := by decide +kernel
theorem dX0_perform_305 : decode cX0_perform 305 = .ok (.iload_n 1, 1) := by decide +kernel
theorem dX0_perform_306 : decode cX0_perform 306 = .ok (.iload 8, 2) := by decide +kernel
theorem dX0_perform_308 : decode cX0_perform 308 = .ok (.iconst 2, 1) := by decide +kernel
theorem dX0_perform_309 : decode cX0_perform 309 = .ok (.iload 4, 2) := by decide +kernel
theorem dX0_perform_311 : decode cX0_perform 311 = .ok (.iload 10, 2) := by decide +kernel
theorem dX0_perform_313 : decode cX0_perform 313 = .ok (.invokevirtual 53, 3) := by decide +kernel
theorem dX0_perform_316 : decode cX0_perform 316 = .ok (.aload_n 0, 1) := by decide +kernel
theorem dX0_perform_317 : decode cX0_perform 317 = .ok (.iload_n 1, 1) := by decide +kernel
theorem dX0_perform_318 : decode cX0_perform 318 = .ok (.iload 9, 2) := by decide +kernel
theorem dX0_perform_320 : decode cX0_perform 320 = .ok (.iconst 0, 1) := by decide +kernel
theorem dX0_perform_321 : decode cX0_perform 321 = .ok (.iconst 2, 1) := by decide +kernel
theorem dX0_perform_322 : decode cX0_perform 322 = .ok (.iload 10, 2) := by decide +kernel
theorem dX0_perform_324 : decode cX0_perform 324 = .ok (.invokevirtual 53, 3) := by decide +kernel
theorem dX0_perform_327 : decode cX0_perform 327 = .ok (.isub, 1) := by decide +kernel
theorem dX0_perform_328 : decode cX0_perform 328 = .ok (.ireturn, 1) := by decide +kernel
theorem dX0_perform_329 : decode cX0_perform 329 = .ok (.aload_n 0, 1) := by decide +kernel
theorem dX0_perform_330 : decode cX0_perform 330 = .ok (.iload_n 1, 1) := by decide +kernel
theorem dX0_perform_331 : decode cX0_perform 331 = .ok (.iload 8, 2) := by decide +kernel
theorem dX0_perform_333 : decode cX0_perform 333 = .ok (.iconst 3, 1) := by decide +kernel
theorem dX0_perform_334 : decode cX0_perform 334 = .ok (.iload 4, 2) := by decide +kernel
theorem dX0_perform_336 : decode cX0_perform 336 = .ok (.iload 10, 2) := by decide +kernel
theorem dX0_perform_338 : decode cX0_perform 338 = .ok (.invokevirtual 53, 3) := by decide +kernel
theorem dX0_perform_341 : decode cX0_perform 341 = .ok (.iconst 1, 1) := by decide +kernel
theorem dX0_perform_342 : decode cX0_perform 342 = .ok (.iadd, 1) := by decide +kernel
theorem dX0_perform_343 : decode cX0_perform 343 = .ok (.ireturn, 1) := by decide +kernel
theorem dX0_perform_344 : decode cX0_perform 344 = .ok (.aload_n 0, 1) := by decide +kernel
theorem dX0_perform_345 : decode cX0_perform 345 = .ok (.iload_n 1, 1) := by decide +kernel
theorem dX0_perform_346 : decode cX0_perform 346 = .ok (.iload 8, 2) := by decide +kernel
theorem dX0_perform_348 : decode cX0_perform 348 = .ok (.iconst 0, 1) := by decide +kernel
theorem dX0_perform_349 : decode cX0_perform 349 = .ok (.iload 4, 2) := by decide +kernel
theorem dX0_perform_351 : decode cX0_perform 351 = .ok (.iload 10, 2) := by decide +kernel
theorem dX0_perform_353 : decode cX0_perform 353 = .ok (.invokevirtual 53, 3) := by decide +kernel
theorem dX0_perform_356 : decode cX0_perform 356 = .ok (.iconst 2, 1) := by decide +kernel
theorem dX0_perform_357 : decode cX0_perform 357 = .ok (.imul, 1) := by decide +kernel
theorem dX0_perform_358 : decode cX0_perform 358 = .ok (.ireturn, 1) := by decide +kernel
theorem dX0_perform_359 : decode cX0_perform 359 = .ok (.aload_n 0, 1) := by decide +kernel
theorem dX0_perform_360 : decode cX0_perform 360 = .ok (.iload_n 1, 1) := by decide +kernel
theorem dX0_perform_361 : decode cX0_perform 361 = .ok (.iload 8, 2) := by decide +kernel
theorem dX0_perform_363 : decode cX0_perform 363 = .ok (.iconst 1, 1) := by decide +kernel
theorem dX0_perform_364 : decode cX0_perform 364 = .ok (.iload 4, 2) := by decide +kernel
theorem dX0_perform_366 : decode cX0_perform 366 = .ok (.iload 10, 2) := by decide +kernel
theorem dX0_perform_368 : decode cX0_perform 368 = .ok (.invokevirtual 53, 3) := by decide +kernel
theorem dX0_perform_371 : decode cX0_perform 371 = .ok (.aload_n 0, 1) := by decide +kernel
theorem dX0_perform_372 : decode cX0_perform 372 = .ok (.iload_n 1, 1) := by decide +kernel
theorem dX0_perform_373 : decode cX0_perform 373 = .ok (.iload 9, 2) := by decide +kernel
theorem dX0_perform_375 : decode cX0_perform 375 = .ok (.iconst 2, 1) := by decide +kernel
theorem dX0_perform_376 : decode cX0_perform 376 = .ok (.iconst 2, 1) := by decide +kernel
theorem dX0_perform_377 : decode cX0_perform 377 = .ok (.iload 10, 2) := by decide +kernel
theorem dX0_perform_379 : decode cX0_perform 379 = .ok (.invokevirtual 53, 3) := by decide +kernel
theorem dX0_perform_382 : decode cX0_perform 382 = .ok (.iadd, 1) := by decide +kernel
theorem dX0_perform_383 : decode cX0_perform 383 = .ok (.ireturn, 1) := by decide +kernel
theorem dX0_perform_384 : decode cX0_perform 384 = .ok (.aload_n 0, 1) := by decide +kernel
theorem dX0_perform_385 : decode cX0_perform 385 = .ok (.iload_n 1, 1) := by decide +kernel
theorem dX0_perform_386 : decode cX0_perform 386 = .ok (.iload 8, 2) := by decide +kernel
theorem dX0_perform_388 : decode cX0_perform 388 = .ok (.iconst 0, 1) := by decide +kernel
theorem dX0_perform_389 : decode cX0_perform 389 = .ok (.iload 4, 2) := by decide +kernel
theorem dX0_perform_391 : decode cX0_perform 391 = .ok (.iload 10, 2) := by decide +kernel
theorem dX0_perform_393 : decode cX0_perform 393 = .ok (.invokevirtual 53, 3) := by decide +kernel
theorem dX0_perform_396 : decode cX0_perform 396 = .ok (.iconst 1, 1) := by decide +kernel
theorem dX0_perform_397 : decode cX0_perform 397 = .ok (.isub, 1) := by decide +kernel
theorem dX0_perform_398 : decode cX0_perform 398 = .ok (.ireturn, 1) := by decide +kernel
theorem dX0_perform_399 : decode cX0_perform 399 = .ok (.iconst 0, 1) := by decide +kernel
theorem dX0_perform_400 : decode cX0_perform 400 = .ok (.ireturn, 1) := by decide +kernel
end
section
/-! A PLAIN JUDGEMENT OVER THE KIT'S: what a frame does with the world ws (cells by places), its locals lv and its stack st; the heap, the locals' row and the written places are kept inside. -/
/-- the array classes that the worlds hold: int, long, byte, short, int[], Shelf -/
def TY (tc : Nat → ClassId) : List (ClassId × FieldType) := [(tc 0, .int), (tc 1, .long), (tc 2, .byte), (tc 3, .short), (tc 4, .array .int), (tc 5, .object "BackHouse$Shelf")]
/-- the static tables -/
def kLeast (j : Nat) : Int32 := [0, 0, 0, 0, 0, 1, 1, 0].getD j 0
def kMost (j : Nat) : Int32 := [5, 12, 6, 99, 255, 9, 20, 9].getD j 0
def kAbove (j : Nat) : Int32 := [-1, 0, 0, 2, 1, 3, 0, 6].getD j 0
def kOwn (j : Nat) : Int32 := [1, 10, 11, 2, 20, 0, 0, 0, 0, 30, 0, 0, 0, 41, 40, 0, 0, 0, 0, 50, 0, 0, 60, 61, 70, 0, 0, 0, 81, 80, 0, 0].getD j 0
def Gs (tt : Nat → Nat) (A : Nat → Prop) (U : State) (H : Heap) : Prop :=
  (va_Z "BackHouse$World" "LEAST" "[I" (.ref (tt 0)) A U H ∧ va_T .int (tt 0) 8 (fun j => .int (kLeast j)) A U H) ∧
  (va_Z "BackHouse$World" "MOST" "[I" (.ref (tt 1)) A U H ∧ va_T .int (tt 1) 8 (fun j => .int (kMost j)) A U H) ∧
  (va_Z "BackHouse$Acts" "ABOVE" "[I" (.ref (tt 2)) A U H ∧ va_T .int (tt 2) 8 (fun j => .int (kAbove j)) A U H) ∧
  (va_Z "BackHouse$Acts" "OWN" "[I" (.ref (tt 3)) A U H ∧ va_T .int (tt 3) 32 (fun j => .int (kOwn j)) A U H)
theorem Gs.moved {tt : Nat → Nat} {A : Nat → Prop} {u U : State} {H : Heap} (hvm : u.vm.Alike U.vm) (h : Gs tt A u H) : Gs tt A U H :=
  ⟨⟨h.1.1.moved hvm, h.1.2.moved hvm⟩, ⟨h.2.1.1.moved hvm, h.2.1.2.moved hvm⟩, ⟨h.2.2.1.1.moved hvm, h.2.2.1.2.moved hvm⟩, ⟨h.2.2.2.1.moved hvm, h.2.2.2.2.moved hvm⟩⟩
theorem Gs.kept {tt : Nat → Nat} {A : Nat → Prop} {U : State} {H H1 : Heap} (h : Gs tt A U H) (hq : ∀ a : Nat, a < H.size → ¬ A a → H1[a]? = H[a]?) : Gs tt A U H1 :=
  ⟨⟨h.1.1.kept hq, h.1.2.kept hq⟩, ⟨h.2.1.1.kept hq, h.2.1.2.kept hq⟩, ⟨h.2.2.1.1.kept hq, h.2.2.1.2.kept hq⟩, ⟨h.2.2.2.1.kept hq, h.2.2.2.2.kept hq⟩⟩
theorem Gs.narrow {tt : Nat → Nat} {A B : Nat → Prop} {U : State} {H : Heap} (h : Gs tt A U H) (hAB : ∀ q, B q → A q) : Gs tt B U H :=
  ⟨⟨h.1.1.narrow hAB, h.1.2.narrow hAB⟩, ⟨h.2.1.1.narrow hAB, h.2.1.2.narrow hAB⟩, ⟨h.2.2.1.1.narrow hAB, h.2.2.1.2.narrow hAB⟩, ⟨h.2.2.2.1.narrow hAB, h.2.2.2.2.narrow hAB⟩⟩
/-- what holds all along a method's body -/
def Cx (p : Program) (R : Room) (s : State) (m : MethodId) (args : Array Value) (c : Code) (own : String) (cc : ByteArray) (nL : Nat) (D : va_G) (tc tt : Nat → Nat) (A : Nat → Prop) (d : Nat) : Prop :=
  p.tables.exec = Jvm.exec ∧ c.code = cc ∧ c.maxLocals = nL ∧ s.vm.findClass own = some m.cls ∧ (∀ w ∈ WU, w.before args s = true) ∧ va_K D vwCl (TY tc) s ∧ (∀ q : Nat, s.heap.size ≤ q → A q) ∧ Gs tt A s s.heap ∧ d ≤ R.frames ∧ 64 * d ≤ R.locals
def Ev (p : Program) (l : Launch) (e : Env) (R : Room) (s : State) (m : MethodId) (args : Array Value) (below : List Frame) (meth : Method) (c : Code) (cells slots : Nat) (Q : State → Prop) (D : va_G) (A : Nat → Prop) (nL : Nat) (ws : va_W) (pc : Nat) (lv : List (Nat × Value)) (st : List Value) : Prop :=
  ∀ (H : Heap) (locs : List Loc) (ls : Array Slot), va_P D vwCl ws H → va_D A ws → va_S A s.heap H locs → lv_has ls nL lv → W p l e R s m args below meth c H locs cells slots Q (F0 m pc ls st)
/-- a class's own row of the tables -/
def KC (ci : Nat) (C : String) (T : u_T) (N : Nat) (ty0 : Nat → FieldType) : Prop := vwCl[ci]? = some (C, T, N) ∧ (∀ w ∈ u_ws C T N, w ∈ WU) ∧ (∀ k, k < N → parseFieldDescriptor (T k).2.2.1 = some (ty0 k)) ∧ (∀ a, a < N → ∀ b, b < N → a ≠ b → (T a).2.1 ≠ (T b).2.1)
/-- entry idx of own's pool is field k of class ci, of type ty -/
def FL (own : String) (idx ci k : Nat) (ty : FieldType) : Prop := ∃ (C : String) (T : u_T) (N : Nat) (ty0 : Nat → FieldType), KC ci C T N ty0 ∧ k < N ∧ Cond.fieldLink own idx (T k).1 (T k).2.1 (T k).2.2.1 ∈ WU ∧ parseFieldDescriptor (T k).2.2.1 = some ty
def FLw (own : String) (idx ci k : Nat) (ty : FieldType) : Prop := ∃ (C : String) (T : u_T) (N : Nat) (ty0 : Nat → FieldType), KC ci C T N ty0 ∧ k < N ∧ Cond.fieldLink own idx (T k).1 (T k).2.1 (T k).2.2.1 ∈ WU ∧ parseFieldDescriptor (T k).2.2.1 = some ty ∧ (T k).2.2.2 = false
theorem FLw.r {own : String} {idx ci k : Nat} {ty : FieldType} (h : FLw own idx ci k ty) : FL own idx ci k ty := by
  obtain ⟨C, T, N, ty0, h1, h2, h3, h4, -⟩ := h
  exact ⟨C, T, N, ty0, h1, h2, h3, h4⟩
section EV
variable {p : Program} {l : Launch} {e : Env} {R : Room} {s : State} {m : MethodId} {args : Array Value} {below : List Frame} {meth : Method} {c : Code} {cells slots : Nat} {Q : State → Prop} {D : va_G} {tc tt : Nat → Nat} {A : Nat → Prop} {own : String} {cc : ByteArray} {nL d pc : Nat} {ws : va_W} {lv : List (Nat × Value)} {rest : List Value}
theorem Ev.sub (is : List Nat) {lv' : List (Nat × Value)} (hl : lv_pick lv is = lv') (k : Ev p l e R s m args below meth c cells slots Q D A nL ws pc lv' rest) : Ev p l e R s m args below meth c cells slots Q D A nL ws pc lv rest :=
  fun H locs ls hP hD hS hl0 => k H locs ls hP hD hS (lv_sub hl0 is hl)
theorem Ev.to {lv' : List (Nat × Value)} {ws' : va_W} {st' : List Value} (h1 : lv = lv') (h2 : ws = ws') (h3 : rest = st') (k : Ev p l e R s m args below meth c cells slots Q D A nL ws' pc lv' st') : Ev p l e R s m args below meth c cells slots Q D A nL ws pc lv rest := by
  subst h1; subst h2; subst h3; exact k
theorem Ev.topi {x : Int32} (k : ∀ y : Int32, y = x → Ev p l e R s m args below meth c cells slots Q D A nL ws pc lv (.int y :: rest)) : Ev p l e R s m args below meth c cells slots Q D A nL ws pc lv (.int x :: rest) := k x rfl
theorem Ev.topl {x : Int64} (k : ∀ y : Int64, y = x → Ev p l e R s m args below meth c cells slots Q D A nL ws pc lv (.long y :: rest)) : Ev p l e R s m args below meth c cells slots Q D A nL ws pc lv (.long x :: rest) := k x rfl
theorem E_iconst (C : Cx p R s m args c own cc nL D tc tt A d) {n : Int} {v : Int32} (hd : decode cc pc = .ok (.iconst n, 1)) (hv : Int32.ofInt n = v) (k : Ev p l e R s m args below meth c cells slots Q D A nL ws (pc + 1) lv (.int v :: rest)) : Ev p l e R s m args below meth c cells slots Q D A nL ws pc lv rest :=
  fun H locs ls hP hD hS hl => lv_iconst C.1 C.2.1 hd hv (k H locs ls hP hD hS hl)
theorem E_lconst (C : Cx p R s m args c own cc nL D tc tt A d) {n : Fin 2} {v : Int64} (hd : decode cc pc = .ok (.lconst n, 1)) (hv : Int64.ofNat (n : Nat) = v) (k : Ev p l e R s m args below meth c cells slots Q D A nL ws (pc + 1) lv (.long v :: rest)) : Ev p l e R s m args below meth c cells slots Q D A nL ws pc lv rest :=
  fun H locs ls hP hD hS hl => lv_lconst C.1 C.2.1 hd hv (k H locs ls hP hD hS hl)
theorem E_bipush (C : Cx p R s m args c own cc nL D tc tt A d) {n : Int} {v : Int32} (hd : decode cc pc = .ok (.bipush n, 2)) (hv : (Int8.ofInt n).toInt32 = v) (k : Ev p l e R s m args below meth c cells slots Q D A nL ws (pc + 2) lv (.int v :: rest)) : Ev p l e R s m args below meth c cells slots Q D A nL ws pc lv rest :=
  fun H locs ls hP hD hS hl => lv_bipush C.1 C.2.1 hd hv (k H locs ls hP hD hS hl)
theorem E_sipush (C : Cx p R s m args c own cc nL D tc tt A d) {n : Int} {v : Int32} (hd : decode cc pc = .ok (.sipush n, 3)) (hv : (Int16.ofInt n).toInt32 = v) (k : Ev p l e R s m args below meth c cells slots Q D A nL ws (pc + 3) lv (.int v :: rest)) : Ev p l e R s m args below meth c cells slots Q D A nL ws pc lv rest :=
  fun H locs ls hP hD hS hl => lv_sipush C.1 C.2.1 hd hv (k H locs ls hP hD hS hl)
theorem E_ldc (C : Cx p R s m args c own cc nL D tc tt A d) {idx : Nat} {v : Int32} (hw : Cond.constant own idx v ∈ WU) (hd : decode cc pc = .ok (.ldc idx, 2)) (k : Ev p l e R s m args below meth c cells slots Q D A nL ws (pc + 2) lv (.int v :: rest)) : Ev p l e R s m args below meth c cells slots Q D A nL ws pc lv rest :=
  fun H locs ls hP hD hS hl => lv_ldc C.1 C.2.1 C.2.2.2.1 (C.2.2.2.2.1 _ hw) hd (k H locs ls hP hD hS hl)
theorem E_ldcw (C : Cx p R s m args c own cc nL D tc tt A d) {idx : Nat} {v : Int32} (hw : Cond.constant own idx v ∈ WU) (hd : decode cc pc = .ok (.ldc_w idx, 3)) (k : Ev p l e R s m args below meth c cells slots Q D A nL ws (pc + 3) lv (.int v :: rest)) : Ev p l e R s m args below meth c cells slots Q D A nL ws pc lv rest :=
  fun H locs ls hP hD hS hl => lv_ldcw C.1 C.2.1 C.2.2.2.1 (C.2.2.2.2.1 _ hw) hd (k H locs ls hP hD hS hl)
theorem E_ldc2 (C : Cx p R s m args c own cc nL D tc tt A d) {idx : Nat} {v : Int64} (hw : Cond.constantLong own idx v ∈ WU) (hd : decode cc pc = .ok (.ldc2_w idx, 3)) (k : Ev p l e R s m args below meth c cells slots Q D A nL ws (pc + 3) lv (.long v :: rest)) : Ev p l e R s m args below meth c cells slots Q D A nL ws pc lv rest :=
  fun H locs ls hP hD hS hl => lv_ldc2 C.1 C.2.1 C.2.2.2.1 (C.2.2.2.2.1 _ hw) hd (k H locs ls hP hD hS hl)
theorem E_iload_n (C : Cx p R s m args c own cc nL D tc tt A d) {k : Fin 4} {x : Int32} (hd : decode cc pc = .ok (.iload_n k, 1)) (j : Nat) (hj : lv[j]? = some ((k : Nat), .int x)) (kk : Ev p l e R s m args below meth c cells slots Q D A nL ws (pc + 1) lv (.int x :: rest)) : Ev p l e R s m args below meth c cells slots Q D A nL ws pc lv rest :=
  fun H locs ls hP hD hS hl => lv_iload_n C.1 C.2.1 hd rfl (lv_at hl j hj) (kk H locs ls hP hD hS hl)
theorem E_iload (C : Cx p R s m args c own cc nL D tc tt A d) {i : Nat} {x : Int32} (hd : decode cc pc = .ok (.iload i, 2)) (j : Nat) (hj : lv[j]? = some (i, .int x)) (kk : Ev p l e R s m args below meth c cells slots Q D A nL ws (pc + 2) lv (.int x :: rest)) : Ev p l e R s m args below meth c cells slots Q D A nL ws pc lv rest :=
  fun H locs ls hP hD hS hl => lv_iload C.1 C.2.1 hd (lv_at hl j hj) (kk H locs ls hP hD hS hl)
theorem E_lload_n (C : Cx p R s m args c own cc nL D tc tt A d) {k : Fin 4} {x : Int64} (hd : decode cc pc = .ok (.lload_n k, 1)) (j : Nat) (hj : lv[j]? = some ((k : Nat), .long x)) (kk : Ev p l e R s m args below meth c cells slots Q D A nL ws (pc + 1) lv (.long x :: rest)) : Ev p l e R s m args below meth c cells slots Q D A nL ws pc lv rest :=
  fun H locs ls hP hD hS hl => lv_lload_n C.1 C.2.1 hd rfl (lv_at hl j hj) (kk H locs ls hP hD hS hl)
theorem E_lload (C : Cx p R s m args c own cc nL D tc tt A d) {i : Nat} {x : Int64} (hd : decode cc pc = .ok (.lload i, 2)) (j : Nat) (hj : lv[j]? = some (i, .long x)) (kk : Ev p l e R s m args below meth c cells slots Q D A nL ws (pc + 2) lv (.long x :: rest)) : Ev p l e R s m args below meth c cells slots Q D A nL ws pc lv rest :=
  fun H locs ls hP hD hS hl => lv_lload C.1 C.2.1 hd (lv_at hl j hj) (kk H locs ls hP hD hS hl)
theorem E_aload_n (C : Cx p R s m args c own cc nL D tc tt A d) {k : Fin 4} {x : Nat} (hd : decode cc pc = .ok (.aload_n k, 1)) (j : Nat) (hj : lv[j]? = some ((k : Nat), .ref x)) (kk : Ev p l e R s m args below meth c cells slots Q D A nL ws (pc + 1) lv (.ref x :: rest)) : Ev p l e R s m args below meth c cells slots Q D A nL ws pc lv rest :=
  fun H locs ls hP hD hS hl => lv_aload_n C.1 C.2.1 hd rfl (lv_at hl j hj) (kk H locs ls hP hD hS hl)
theorem E_aload_nN (C : Cx p R s m args c own cc nL D tc tt A d) {k : Fin 4} (hd : decode cc pc = .ok (.aload_n k, 1)) (j : Nat) (hj : lv[j]? = some ((k : Nat), .null)) (kk : Ev p l e R s m args below meth c cells slots Q D A nL ws (pc + 1) lv (.null :: rest)) : Ev p l e R s m args below meth c cells slots Q D A nL ws pc lv rest :=
  fun H locs ls hP hD hS hl => lv_aload_nN C.1 C.2.1 hd rfl (lv_at hl j hj) (kk H locs ls hP hD hS hl)
theorem E_aload (C : Cx p R s m args c own cc nL D tc tt A d) {i : Nat} {x : Nat} (hd : decode cc pc = .ok (.aload i, 2)) (j : Nat) (hj : lv[j]? = some (i, .ref x)) (kk : Ev p l e R s m args below meth c cells slots Q D A nL ws (pc + 2) lv (.ref x :: rest)) : Ev p l e R s m args below meth c cells slots Q D A nL ws pc lv rest :=
  fun H locs ls hP hD hS hl => lv_aload C.1 C.2.1 hd (lv_at hl j hj) (kk H locs ls hP hD hS hl)
theorem E_aloadN (C : Cx p R s m args c own cc nL D tc tt A d) {i : Nat} (hd : decode cc pc = .ok (.aload i, 2)) (j : Nat) (hj : lv[j]? = some (i, .null)) (kk : Ev p l e R s m args below meth c cells slots Q D A nL ws (pc + 2) lv (.null :: rest)) : Ev p l e R s m args below meth c cells slots Q D A nL ws pc lv rest :=
  fun H locs ls hP hD hS hl => lv_aloadN C.1 C.2.1 hd (lv_at hl j hj) (kk H locs ls hP hD hS hl)
/-- the list of locals behind a store -/
def lvs (i : Nat) (v : Value) (lv : List (Nat × Value)) : List (Nat × Value) := (i, v) :: lv.filter (fun q => !(q.1 == i) && !(q.1 + 1 == i && q.2.category == 2))
def lvl (i : Nat) (v : Value) (lv : List (Nat × Value)) : List (Nat × Value) := (i, v) :: lv.filter (fun q => !(q.1 == i) && (!(q.1 == i + 1) && !(q.1 + 1 == i && q.2.category == 2)))
theorem E_istore_n (C : Cx p R s m args c own cc nL D tc tt A d) {k : Fin 4} {x : Int32} (hd : decode cc pc = .ok (.istore_n k, 1)) (hi : (k : Nat) < nL) (kk : Ev p l e R s m args below meth c cells slots Q D A nL ws (pc + 1) (lvs (k : Nat) (.int x) lv) rest) : Ev p l e R s m args below meth c cells slots Q D A nL ws pc lv (.int x :: rest) :=
  fun H locs ls hP hD hS hl => lv_istore_n C.1 C.2.1 hd rfl hl hi rfl (fun ls' hl' => kk H locs ls' hP hD hS hl')
theorem E_istore (C : Cx p R s m args c own cc nL D tc tt A d) {i : Nat} {x : Int32} (hd : decode cc pc = .ok (.istore i, 2)) (hi : i < nL) (kk : Ev p l e R s m args below meth c cells slots Q D A nL ws (pc + 2) (lvs i (.int x) lv) rest) : Ev p l e R s m args below meth c cells slots Q D A nL ws pc lv (.int x :: rest) :=
  fun H locs ls hP hD hS hl => lv_istore C.1 C.2.1 hd hl hi rfl (fun ls' hl' => kk H locs ls' hP hD hS hl')
theorem E_astore_n (C : Cx p R s m args c own cc nL D tc tt A d) {k : Fin 4} {x : Nat} (hd : decode cc pc = .ok (.astore_n k, 1)) (hi : (k : Nat) < nL) (kk : Ev p l e R s m args below meth c cells slots Q D A nL ws (pc + 1) (lvs (k : Nat) (.ref x) lv) rest) : Ev p l e R s m args below meth c cells slots Q D A nL ws pc lv (.ref x :: rest) :=
  fun H locs ls hP hD hS hl => lv_astore_n C.1 C.2.1 hd rfl hl hi rfl (fun ls' hl' => kk H locs ls' hP hD hS hl')
theorem E_astore_nN (C : Cx p R s m args c own cc nL D tc tt A d) {k : Fin 4} (hd : decode cc pc = .ok (.astore_n k, 1)) (hi : (k : Nat) < nL) (kk : Ev p l e R s m args below meth c cells slots Q D A nL ws (pc + 1) (lvs (k : Nat) .null lv) rest) : Ev p l e R s m args below meth c cells slots Q D A nL ws pc lv (.null :: rest) :=
  fun H locs ls hP hD hS hl => lv_astore_nN C.1 C.2.1 hd rfl hl hi rfl (fun ls' hl' => kk H locs ls' hP hD hS hl')
theorem E_astore (C : Cx p R s m args c own cc nL D tc tt A d) {i : Nat} {x : Nat} (hd : decode cc pc = .ok (.astore i, 2)) (hi : i < nL) (kk : Ev p l e R s m args below meth c cells slots Q D A nL ws (pc + 2) (lvs i (.ref x) lv) rest) : Ev p l e R s m args below meth c cells slots Q D A nL ws pc lv (.ref x :: rest) :=
  fun H locs ls hP hD hS hl => lv_astore C.1 C.2.1 hd hl hi rfl (fun ls' hl' => kk H locs ls' hP hD hS hl')
theorem E_astoreN (C : Cx p R s m args c own cc nL D tc tt A d) {i : Nat} (hd : decode cc pc = .ok (.astore i, 2)) (hi : i < nL) (kk : Ev p l e R s m args below meth c cells slots Q D A nL ws (pc + 2) (lvs i .null lv) rest) : Ev p l e R s m args below meth c cells slots Q D A nL ws pc lv (.null :: rest) :=
  fun H locs ls hP hD hS hl => lv_astoreN C.1 C.2.1 hd hl hi rfl (fun ls' hl' => kk H locs ls' hP hD hS hl')
theorem E_lstore_n (C : Cx p R s m args c own cc nL D tc tt A d) {k : Fin 4} {x : Int64} (hd : decode cc pc = .ok (.lstore_n k, 1)) (hi : (k : Nat) + 1 < nL) (kk : Ev p l e R s m args below meth c cells slots Q D A nL ws (pc + 1) (lvl (k : Nat) (.long x) lv) rest) : Ev p l e R s m args below meth c cells slots Q D A nL ws pc lv (.long x :: rest) :=
  fun H locs ls hP hD hS hl => lv_lstore_n C.1 C.2.1 hd rfl hl hi rfl (fun ls' hl' => kk H locs ls' hP hD hS hl')
theorem E_lstore (C : Cx p R s m args c own cc nL D tc tt A d) {i : Nat} {x : Int64} (hd : decode cc pc = .ok (.lstore i, 2)) (hi : i + 1 < nL) (kk : Ev p l e R s m args below meth c cells slots Q D A nL ws (pc + 2) (lvl i (.long x) lv) rest) : Ev p l e R s m args below meth c cells slots Q D A nL ws pc lv (.long x :: rest) :=
  fun H locs ls hP hD hS hl => lv_lstore C.1 C.2.1 hd hl hi rfl (fun ls' hl' => kk H locs ls' hP hD hS hl')
theorem E_iinc (C : Cx p R s m args c own cc nL D tc tt A d) {i : Nat} {n : Int} {x v : Int32} (hd : decode cc pc = .ok (.iinc i n, 3)) (j : Nat) (hj : lv[j]? = some (i, .int x)) (hv : x + Int32.ofInt n = v) (hi : i < nL) (kk : Ev p l e R s m args below meth c cells slots Q D A nL ws (pc + 3) (lvs i (.int v) lv) rest) : Ev p l e R s m args below meth c cells slots Q D A nL ws pc lv rest :=
  fun H locs ls hP hD hS hl => lv_iinc C.1 C.2.1 hd hl hj hv hi rfl (fun ls' hl' => kk H locs ls' hP hD hS hl')
theorem E_iadd (C : Cx p R s m args c own cc nL D tc tt A d) {x : Int32} {y : Int32} (hd : decode cc pc = .ok (.iadd, 1)) (k : Ev p l e R s m args below meth c cells slots Q D A nL ws (pc + 1) lv (.int (x + y) :: rest)) : Ev p l e R s m args below meth c cells slots Q D A nL ws pc lv (.int y :: .int x :: rest) :=
  fun H locs ls hP hD hS hl => lv_iadd C.1 C.2.1 hd (k H locs ls hP hD hS hl)
theorem E_isub (C : Cx p R s m args c own cc nL D tc tt A d) {x : Int32} {y : Int32} (hd : decode cc pc = .ok (.isub, 1)) (k : Ev p l e R s m args below meth c cells slots Q D A nL ws (pc + 1) lv (.int (x - y) :: rest)) : Ev p l e R s m args below meth c cells slots Q D A nL ws pc lv (.int y :: .int x :: rest) :=
  fun H locs ls hP hD hS hl => lv_isub C.1 C.2.1 hd (k H locs ls hP hD hS hl)
theorem E_imul (C : Cx p R s m args c own cc nL D tc tt A d) {x : Int32} {y : Int32} (hd : decode cc pc = .ok (.imul, 1)) (k : Ev p l e R s m args below meth c cells slots Q D A nL ws (pc + 1) lv (.int (x * y) :: rest)) : Ev p l e R s m args below meth c cells slots Q D A nL ws pc lv (.int y :: .int x :: rest) :=
  fun H locs ls hP hD hS hl => lv_imul C.1 C.2.1 hd (k H locs ls hP hD hS hl)
theorem E_iand (C : Cx p R s m args c own cc nL D tc tt A d) {x : Int32} {y : Int32} (hd : decode cc pc = .ok (.iand, 1)) (k : Ev p l e R s m args below meth c cells slots Q D A nL ws (pc + 1) lv (.int (x &&& y) :: rest)) : Ev p l e R s m args below meth c cells slots Q D A nL ws pc lv (.int y :: .int x :: rest) :=
  fun H locs ls hP hD hS hl => lv_iand C.1 C.2.1 hd (k H locs ls hP hD hS hl)
theorem E_ior (C : Cx p R s m args c own cc nL D tc tt A d) {x : Int32} {y : Int32} (hd : decode cc pc = .ok (.ior, 1)) (k : Ev p l e R s m args below meth c cells slots Q D A nL ws (pc + 1) lv (.int (x ||| y) :: rest)) : Ev p l e R s m args below meth c cells slots Q D A nL ws pc lv (.int y :: .int x :: rest) :=
  fun H locs ls hP hD hS hl => lv_ior C.1 C.2.1 hd (k H locs ls hP hD hS hl)
theorem E_ixor (C : Cx p R s m args c own cc nL D tc tt A d) {x : Int32} {y : Int32} (hd : decode cc pc = .ok (.ixor, 1)) (k : Ev p l e R s m args below meth c cells slots Q D A nL ws (pc + 1) lv (.int (x ^^^ y) :: rest)) : Ev p l e R s m args below meth c cells slots Q D A nL ws pc lv (.int y :: .int x :: rest) :=
  fun H locs ls hP hD hS hl => lv_ixor C.1 C.2.1 hd (k H locs ls hP hD hS hl)
theorem E_ladd (C : Cx p R s m args c own cc nL D tc tt A d) {x : Int64} {y : Int64} (hd : decode cc pc = .ok (.ladd, 1)) (k : Ev p l e R s m args below meth c cells slots Q D A nL ws (pc + 1) lv (.long (x + y) :: rest)) : Ev p l e R s m args below meth c cells slots Q D A nL ws pc lv (.long y :: .long x :: rest) :=
  fun H locs ls hP hD hS hl => lv_ladd C.1 C.2.1 hd (k H locs ls hP hD hS hl)
theorem E_lsub (C : Cx p R s m args c own cc nL D tc tt A d) {x : Int64} {y : Int64} (hd : decode cc pc = .ok (.lsub, 1)) (k : Ev p l e R s m args below meth c cells slots Q D A nL ws (pc + 1) lv (.long (x - y) :: rest)) : Ev p l e R s m args below meth c cells slots Q D A nL ws pc lv (.long y :: .long x :: rest) :=
  fun H locs ls hP hD hS hl => lv_lsub C.1 C.2.1 hd (k H locs ls hP hD hS hl)
theorem E_lmul (C : Cx p R s m args c own cc nL D tc tt A d) {x : Int64} {y : Int64} (hd : decode cc pc = .ok (.lmul, 1)) (k : Ev p l e R s m args below meth c cells slots Q D A nL ws (pc + 1) lv (.long (x * y) :: rest)) : Ev p l e R s m args below meth c cells slots Q D A nL ws pc lv (.long y :: .long x :: rest) :=
  fun H locs ls hP hD hS hl => lv_lmul C.1 C.2.1 hd (k H locs ls hP hD hS hl)
theorem E_land (C : Cx p R s m args c own cc nL D tc tt A d) {x : Int64} {y : Int64} (hd : decode cc pc = .ok (.land, 1)) (k : Ev p l e R s m args below meth c cells slots Q D A nL ws (pc + 1) lv (.long (x &&& y) :: rest)) : Ev p l e R s m args below meth c cells slots Q D A nL ws pc lv (.long y :: .long x :: rest) :=
  fun H locs ls hP hD hS hl => lv_land C.1 C.2.1 hd (k H locs ls hP hD hS hl)
theorem E_lor (C : Cx p R s m args c own cc nL D tc tt A d) {x : Int64} {y : Int64} (hd : decode cc pc = .ok (.lor, 1)) (k : Ev p l e R s m args below meth c cells slots Q D A nL ws (pc + 1) lv (.long (x ||| y) :: rest)) : Ev p l e R s m args below meth c cells slots Q D A nL ws pc lv (.long y :: .long x :: rest) :=
  fun H locs ls hP hD hS hl => lv_lor C.1 C.2.1 hd (k H locs ls hP hD hS hl)
theorem E_idiv (C : Cx p R s m args c own cc nL D tc tt A d) {x : Int32} {y : Int32} (hd : decode cc pc = .ok (.idiv, 1)) (hne : ¬ y = 0) (k : Ev p l e R s m args below meth c cells slots Q D A nL ws (pc + 1) lv (.int (x / y) :: rest)) : Ev p l e R s m args below meth c cells slots Q D A nL ws pc lv (.int y :: .int x :: rest) :=
  fun H locs ls hP hD hS hl => lv_idiv C.1 C.2.1 hd hne (k H locs ls hP hD hS hl)
theorem E_irem (C : Cx p R s m args c own cc nL D tc tt A d) {x : Int32} {y : Int32} (hd : decode cc pc = .ok (.irem, 1)) (hne : ¬ y = 0) (k : Ev p l e R s m args below meth c cells slots Q D A nL ws (pc + 1) lv (.int (x - x / y * y) :: rest)) : Ev p l e R s m args below meth c cells slots Q D A nL ws pc lv (.int y :: .int x :: rest) :=
  fun H locs ls hP hD hS hl => lv_irem C.1 C.2.1 hd hne (k H locs ls hP hD hS hl)
theorem E_ldiv (C : Cx p R s m args c own cc nL D tc tt A d) {x : Int64} {y : Int64} (hd : decode cc pc = .ok (.ldiv, 1)) (hne : ¬ y = 0) (k : Ev p l e R s m args below meth c cells slots Q D A nL ws (pc + 1) lv (.long (x / y) :: rest)) : Ev p l e R s m args below meth c cells slots Q D A nL ws pc lv (.long y :: .long x :: rest) :=
  fun H locs ls hP hD hS hl => lv_ldiv C.1 C.2.1 hd hne (k H locs ls hP hD hS hl)
theorem E_lrem (C : Cx p R s m args c own cc nL D tc tt A d) {x : Int64} {y : Int64} (hd : decode cc pc = .ok (.lrem, 1)) (hne : ¬ y = 0) (k : Ev p l e R s m args below meth c cells slots Q D A nL ws (pc + 1) lv (.long (x - x / y * y) :: rest)) : Ev p l e R s m args below meth c cells slots Q D A nL ws pc lv (.long y :: .long x :: rest) :=
  fun H locs ls hP hD hS hl => lv_lrem C.1 C.2.1 hd hne (k H locs ls hP hD hS hl)
theorem E_ishl (C : Cx p R s m args c own cc nL D tc tt A d) {x : Int32} {y : Int32} (hd : decode cc pc = .ok (.ishl, 1)) (k : Ev p l e R s m args below meth c cells slots Q D A nL ws (pc + 1) lv (.int (x <<< (y &&& 31)) :: rest)) : Ev p l e R s m args below meth c cells slots Q D A nL ws pc lv (.int y :: .int x :: rest) :=
  fun H locs ls hP hD hS hl => lv_ishl C.1 C.2.1 hd (k H locs ls hP hD hS hl)
theorem E_ishr (C : Cx p R s m args c own cc nL D tc tt A d) {x : Int32} {y : Int32} (hd : decode cc pc = .ok (.ishr, 1)) (k : Ev p l e R s m args below meth c cells slots Q D A nL ws (pc + 1) lv (.int (x >>> (y &&& 31)) :: rest)) : Ev p l e R s m args below meth c cells slots Q D A nL ws pc lv (.int y :: .int x :: rest) :=
  fun H locs ls hP hD hS hl => lv_ishr C.1 C.2.1 hd (k H locs ls hP hD hS hl)
theorem E_iushr (C : Cx p R s m args c own cc nL D tc tt A d) {x : Int32} {y : Int32} (hd : decode cc pc = .ok (.iushr, 1)) (k : Ev p l e R s m args below meth c cells slots Q D A nL ws (pc + 1) lv (.int ((x.toUInt32 >>> (y.toUInt32 &&& Int32.toUInt32 31)).toInt32) :: rest)) : Ev p l e R s m args below meth c cells slots Q D A nL ws pc lv (.int y :: .int x :: rest) :=
  fun H locs ls hP hD hS hl => lv_iushr C.1 C.2.1 hd rfl (k H locs ls hP hD hS hl)
theorem E_lshl (C : Cx p R s m args c own cc nL D tc tt A d) {x : Int64} {y : Int32} (hd : decode cc pc = .ok (.lshl, 1)) (k : Ev p l e R s m args below meth c cells slots Q D A nL ws (pc + 1) lv (.long (x <<< (y.toInt64 &&& 63)) :: rest)) : Ev p l e R s m args below meth c cells slots Q D A nL ws pc lv (.int y :: .long x :: rest) :=
  fun H locs ls hP hD hS hl => lv_lshl C.1 C.2.1 hd rfl (k H locs ls hP hD hS hl)
theorem E_lcmp (C : Cx p R s m args c own cc nL D tc tt A d) {x : Int64} {y : Int64} (hd : decode cc pc = .ok (.lcmp, 1)) (k : Ev p l e R s m args below meth c cells slots Q D A nL ws (pc + 1) lv (.int (lg_cmp x y) :: rest)) : Ev p l e R s m args below meth c cells slots Q D A nL ws pc lv (.long y :: .long x :: rest) :=
  fun H locs ls hP hD hS hl => W.lcmp C.1 C.2.1 hd (k H locs ls hP hD hS hl)
theorem E_ineg (C : Cx p R s m args c own cc nL D tc tt A d) {x : Int32} (hd : decode cc pc = .ok (.ineg, 1)) (k : Ev p l e R s m args below meth c cells slots Q D A nL ws (pc + 1) lv (.int (-x) :: rest)) : Ev p l e R s m args below meth c cells slots Q D A nL ws pc lv (.int x :: rest) :=
  fun H locs ls hP hD hS hl => lv_ineg C.1 C.2.1 hd (k H locs ls hP hD hS hl)
theorem E_i2l (C : Cx p R s m args c own cc nL D tc tt A d) {x : Int32} (hd : decode cc pc = .ok (.i2l, 1)) (k : Ev p l e R s m args below meth c cells slots Q D A nL ws (pc + 1) lv (.long (x.toInt64) :: rest)) : Ev p l e R s m args below meth c cells slots Q D A nL ws pc lv (.int x :: rest) :=
  fun H locs ls hP hD hS hl => lv_i2l C.1 C.2.1 hd rfl (k H locs ls hP hD hS hl)
theorem E_l2i (C : Cx p R s m args c own cc nL D tc tt A d) {x : Int64} (hd : decode cc pc = .ok (.l2i, 1)) (k : Ev p l e R s m args below meth c cells slots Q D A nL ws (pc + 1) lv (.int (x.toInt32) :: rest)) : Ev p l e R s m args below meth c cells slots Q D A nL ws pc lv (.long x :: rest) :=
  fun H locs ls hP hD hS hl => lv_l2i C.1 C.2.1 hd rfl (k H locs ls hP hD hS hl)
theorem E_i2b (C : Cx p R s m args c own cc nL D tc tt A d) {x : Int32} (hd : decode cc pc = .ok (.i2b, 1)) (k : Ev p l e R s m args below meth c cells slots Q D A nL ws (pc + 1) lv (.int (x.toInt8.toInt32) :: rest)) : Ev p l e R s m args below meth c cells slots Q D A nL ws pc lv (.int x :: rest) :=
  fun H locs ls hP hD hS hl => lv_i2b C.1 C.2.1 hd rfl (k H locs ls hP hD hS hl)
theorem E_i2s (C : Cx p R s m args c own cc nL D tc tt A d) {x : Int32} (hd : decode cc pc = .ok (.i2s, 1)) (k : Ev p l e R s m args below meth c cells slots Q D A nL ws (pc + 1) lv (.int (x.toInt16.toInt32) :: rest)) : Ev p l e R s m args below meth c cells slots Q D A nL ws pc lv (.int x :: rest) :=
  fun H locs ls hP hD hS hl => lv_i2s C.1 C.2.1 hd rfl (k H locs ls hP hD hS hl)
theorem E_dup (C : Cx p R s m args c own cc nL D tc tt A d) {v : Value} (hd : decode cc pc = .ok (.dup, 1)) (hv : v.category = 1) (k : Ev p l e R s m args below meth c cells slots Q D A nL ws (pc + 1) lv (v :: v :: rest)) : Ev p l e R s m args below meth c cells slots Q D A nL ws pc lv (v :: rest) :=
  fun H locs ls hP hD hS hl => lv_dup C.1 C.2.1 hd hv (k H locs ls hP hD hS hl)
theorem E_dup2 (C : Cx p R s m args c own cc nL D tc tt A d) {v w : Value} (hd : decode cc pc = .ok (.dup2, 1)) (hv : v.category = 1) (hw : w.category = 1) (k : Ev p l e R s m args below meth c cells slots Q D A nL ws (pc + 1) lv (v :: w :: v :: w :: rest)) : Ev p l e R s m args below meth c cells slots Q D A nL ws pc lv (v :: w :: rest) :=
  fun H locs ls hP hD hS hl => lv_dup2_11 C.1 C.2.1 hd hv hw (k H locs ls hP hD hS hl)
theorem E_pop (C : Cx p R s m args c own cc nL D tc tt A d) {v : Value} (hd : decode cc pc = .ok (.pop, 1)) (hv : v.category = 1) (k : Ev p l e R s m args below meth c cells slots Q D A nL ws (pc + 1) lv rest) : Ev p l e R s m args below meth c cells slots Q D A nL ws pc lv (v :: rest) :=
  fun H locs ls hP hD hS hl => lv_pop C.1 C.2.1 hd hv (k H locs ls hP hD hS hl)
theorem E_dup_x1 (C : Cx p R s m args c own cc nL D tc tt A d) {v w : Value} (hd : decode cc pc = .ok (.dup_x1, 1)) (hv : v.category = 1) (hw : w.category = 1) (k : Ev p l e R s m args below meth c cells slots Q D A nL ws (pc + 1) lv (v :: w :: v :: rest)) : Ev p l e R s m args below meth c cells slots Q D A nL ws pc lv (v :: w :: rest) :=
  fun H locs ls hP hD hS hl => lv_dup_x1 C.1 C.2.1 hd hv hw (k H locs ls hP hD hS hl)
theorem E_if_eq (C : Cx p R s m args c own cc nL D tc tt A d) {x : Int32} {off : Int} (tgt : Nat) (hd : decode cc pc = .ok (.ifCond .eq off, 3)) (ht : (pc : Int) + off = (tgt : Int)) (kt : x = 0 → Ev p l e R s m args below meth c cells slots Q D A nL ws tgt lv rest) (kf : ¬ (x = 0) → Ev p l e R s m args below meth c cells slots Q D A nL ws (pc + 3) lv rest) : Ev p l e R s m args below meth c cells slots Q D A nL ws pc lv (.int x :: rest) :=
  fun H locs ls hP hD hS hl => lv_if_eq C.1 C.2.1 hd ht (fun h => kt h H locs ls hP hD hS hl) (fun h => kf h H locs ls hP hD hS hl)
theorem E_icmp_eq (C : Cx p R s m args c own cc nL D tc tt A d) {x y : Int32} {off : Int} (tgt : Nat) (hd : decode cc pc = .ok (.if_icmp .eq off, 3)) (ht : (pc : Int) + off = (tgt : Int)) (kt : x = y → Ev p l e R s m args below meth c cells slots Q D A nL ws tgt lv rest) (kf : ¬ (x = y) → Ev p l e R s m args below meth c cells slots Q D A nL ws (pc + 3) lv rest) : Ev p l e R s m args below meth c cells slots Q D A nL ws pc lv (.int y :: .int x :: rest) :=
  fun H locs ls hP hD hS hl => lv_icmp_eq C.1 C.2.1 hd ht (fun h => kt h H locs ls hP hD hS hl) (fun h => kf h H locs ls hP hD hS hl)
theorem E_if_ne (C : Cx p R s m args c own cc nL D tc tt A d) {x : Int32} {off : Int} (tgt : Nat) (hd : decode cc pc = .ok (.ifCond .ne off, 3)) (ht : (pc : Int) + off = (tgt : Int)) (kt : ¬ (x = 0) → Ev p l e R s m args below meth c cells slots Q D A nL ws tgt lv rest) (kf : x = 0 → Ev p l e R s m args below meth c cells slots Q D A nL ws (pc + 3) lv rest) : Ev p l e R s m args below meth c cells slots Q D A nL ws pc lv (.int x :: rest) :=
  fun H locs ls hP hD hS hl => lv_if_ne C.1 C.2.1 hd ht (fun h => kt h H locs ls hP hD hS hl) (fun h => kf h H locs ls hP hD hS hl)
theorem E_icmp_ne (C : Cx p R s m args c own cc nL D tc tt A d) {x y : Int32} {off : Int} (tgt : Nat) (hd : decode cc pc = .ok (.if_icmp .ne off, 3)) (ht : (pc : Int) + off = (tgt : Int)) (kt : ¬ (x = y) → Ev p l e R s m args below meth c cells slots Q D A nL ws tgt lv rest) (kf : x = y → Ev p l e R s m args below meth c cells slots Q D A nL ws (pc + 3) lv rest) : Ev p l e R s m args below meth c cells slots Q D A nL ws pc lv (.int y :: .int x :: rest) :=
  fun H locs ls hP hD hS hl => lv_icmp_ne C.1 C.2.1 hd ht (fun h => kt h H locs ls hP hD hS hl) (fun h => kf h H locs ls hP hD hS hl)
theorem E_if_lt (C : Cx p R s m args c own cc nL D tc tt A d) {x : Int32} {off : Int} (tgt : Nat) (hd : decode cc pc = .ok (.ifCond .lt off, 3)) (ht : (pc : Int) + off = (tgt : Int)) (kt : x < 0 → Ev p l e R s m args below meth c cells slots Q D A nL ws tgt lv rest) (kf : ¬ (x < 0) → Ev p l e R s m args below meth c cells slots Q D A nL ws (pc + 3) lv rest) : Ev p l e R s m args below meth c cells slots Q D A nL ws pc lv (.int x :: rest) :=
  fun H locs ls hP hD hS hl => lv_if_lt C.1 C.2.1 hd ht (fun h => kt h H locs ls hP hD hS hl) (fun h => kf h H locs ls hP hD hS hl)
theorem E_icmp_lt (C : Cx p R s m args c own cc nL D tc tt A d) {x y : Int32} {off : Int} (tgt : Nat) (hd : decode cc pc = .ok (.if_icmp .lt off, 3)) (ht : (pc : Int) + off = (tgt : Int)) (kt : x < y → Ev p l e R s m args below meth c cells slots Q D A nL ws tgt lv rest) (kf : ¬ (x < y) → Ev p l e R s m args below meth c cells slots Q D A nL ws (pc + 3) lv rest) : Ev p l e R s m args below meth c cells slots Q D A nL ws pc lv (.int y :: .int x :: rest) :=
  fun H locs ls hP hD hS hl => lv_icmp_lt C.1 C.2.1 hd ht (fun h => kt h H locs ls hP hD hS hl) (fun h => kf h H locs ls hP hD hS hl)
theorem E_if_ge (C : Cx p R s m args c own cc nL D tc tt A d) {x : Int32} {off : Int} (tgt : Nat) (hd : decode cc pc = .ok (.ifCond .ge off, 3)) (ht : (pc : Int) + off = (tgt : Int)) (kt : 0 ≤ x → Ev p l e R s m args below meth c cells slots Q D A nL ws tgt lv rest) (kf : ¬ (0 ≤ x) → Ev p l e R s m args below meth c cells slots Q D A nL ws (pc + 3) lv rest) : Ev p l e R s m args below meth c cells slots Q D A nL ws pc lv (.int x :: rest) :=
  fun H locs ls hP hD hS hl => lv_if_ge C.1 C.2.1 hd ht (fun h => kt h H locs ls hP hD hS hl) (fun h => kf h H locs ls hP hD hS hl)
theorem E_icmp_ge (C : Cx p R s m args c own cc nL D tc tt A d) {x y : Int32} {off : Int} (tgt : Nat) (hd : decode cc pc = .ok (.if_icmp .ge off, 3)) (ht : (pc : Int) + off = (tgt : Int)) (kt : y ≤ x → Ev p l e R s m args below meth c cells slots Q D A nL ws tgt lv rest) (kf : ¬ (y ≤ x) → Ev p l e R s m args below meth c cells slots Q D A nL ws (pc + 3) lv rest) : Ev p l e R s m args below meth c cells slots Q D A nL ws pc lv (.int y :: .int x :: rest) :=
  fun H locs ls hP hD hS hl => lv_icmp_ge C.1 C.2.1 hd ht (fun h => kt h H locs ls hP hD hS hl) (fun h => kf h H locs ls hP hD hS hl)
theorem E_if_gt (C : Cx p R s m args c own cc nL D tc tt A d) {x : Int32} {off : Int} (tgt : Nat) (hd : decode cc pc = .ok (.ifCond .gt off, 3)) (ht : (pc : Int) + off = (tgt : Int)) (kt : 0 < x → Ev p l e R s m args below meth c cells slots Q D A nL ws tgt lv rest) (kf : ¬ (0 < x) → Ev p l e R s m args below meth c cells slots Q D A nL ws (pc + 3) lv rest) : Ev p l e R s m args below meth c cells slots Q D A nL ws pc lv (.int x :: rest) :=
  fun H locs ls hP hD hS hl => lv_if_gt C.1 C.2.1 hd ht (fun h => kt h H locs ls hP hD hS hl) (fun h => kf h H locs ls hP hD hS hl)
theorem E_icmp_gt (C : Cx p R s m args c own cc nL D tc tt A d) {x y : Int32} {off : Int} (tgt : Nat) (hd : decode cc pc = .ok (.if_icmp .gt off, 3)) (ht : (pc : Int) + off = (tgt : Int)) (kt : y < x → Ev p l e R s m args below meth c cells slots Q D A nL ws tgt lv rest) (kf : ¬ (y < x) → Ev p l e R s m args below meth c cells slots Q D A nL ws (pc + 3) lv rest) : Ev p l e R s m args below meth c cells slots Q D A nL ws pc lv (.int y :: .int x :: rest) :=
  fun H locs ls hP hD hS hl => lv_icmp_gt C.1 C.2.1 hd ht (fun h => kt h H locs ls hP hD hS hl) (fun h => kf h H locs ls hP hD hS hl)
theorem E_if_le (C : Cx p R s m args c own cc nL D tc tt A d) {x : Int32} {off : Int} (tgt : Nat) (hd : decode cc pc = .ok (.ifCond .le off, 3)) (ht : (pc : Int) + off = (tgt : Int)) (kt : x ≤ 0 → Ev p l e R s m args below meth c cells slots Q D A nL ws tgt lv rest) (kf : ¬ (x ≤ 0) → Ev p l e R s m args below meth c cells slots Q D A nL ws (pc + 3) lv rest) : Ev p l e R s m args below meth c cells slots Q D A nL ws pc lv (.int x :: rest) :=
  fun H locs ls hP hD hS hl => lv_if_le C.1 C.2.1 hd ht (fun h => kt h H locs ls hP hD hS hl) (fun h => kf h H locs ls hP hD hS hl)
theorem E_icmp_le (C : Cx p R s m args c own cc nL D tc tt A d) {x y : Int32} {off : Int} (tgt : Nat) (hd : decode cc pc = .ok (.if_icmp .le off, 3)) (ht : (pc : Int) + off = (tgt : Int)) (kt : x ≤ y → Ev p l e R s m args below meth c cells slots Q D A nL ws tgt lv rest) (kf : ¬ (x ≤ y) → Ev p l e R s m args below meth c cells slots Q D A nL ws (pc + 3) lv rest) : Ev p l e R s m args below meth c cells slots Q D A nL ws pc lv (.int y :: .int x :: rest) :=
  fun H locs ls hP hD hS hl => lv_icmp_le C.1 C.2.1 hd ht (fun h => kt h H locs ls hP hD hS hl) (fun h => kf h H locs ls hP hD hS hl)
theorem E_goto (C : Cx p R s m args c own cc nL D tc tt A d) {off : Int} (tgt : Nat) (hd : decode cc pc = .ok (.goto off, 3)) (ht : (pc : Int) + off = (tgt : Int)) (k : Ev p l e R s m args below meth c cells slots Q D A nL ws tgt lv rest) : Ev p l e R s m args below meth c cells slots Q D A nL ws pc lv rest :=
  fun H locs ls hP hD hS hl => lv_goto C.1 C.2.1 hd ht (k H locs ls hP hD hS hl)
theorem E_null (C : Cx p R s m args c own cc nL D tc tt A d) (hd : decode cc pc = .ok (.aconst_null, 1)) (k : Ev p l e R s m args below meth c cells slots Q D A nL ws (pc + 1) lv (.null :: rest)) : Ev p l e R s m args below meth c cells slots Q D A nL ws pc lv rest :=
  fun H locs ls hP hD hS hl => lv_null C.1 C.2.1 hd (k H locs ls hP hD hS hl)
theorem E_ifnull (C : Cx p R s m args c own cc nL D tc tt A d) {x : Nat} {off : Int} (hd : decode cc pc = .ok (.ifnull off, 3)) (k : Ev p l e R s m args below meth c cells slots Q D A nL ws (pc + 3) lv rest) : Ev p l e R s m args below meth c cells slots Q D A nL ws pc lv (.ref x :: rest) :=
  fun H locs ls hP hD hS hl => lv_ifnull C.1 C.2.1 hd (k H locs ls hP hD hS hl)
theorem E_ifnullN (C : Cx p R s m args c own cc nL D tc tt A d) {off : Int} (tgt : Nat) (hd : decode cc pc = .ok (.ifnull off, 3)) (ht : (pc : Int) + off = (tgt : Int)) (k : Ev p l e R s m args below meth c cells slots Q D A nL ws tgt lv rest) : Ev p l e R s m args below meth c cells slots Q D A nL ws pc lv (.null :: rest) :=
  fun H locs ls hP hD hS hl => lv_ifnullN C.1 C.2.1 hd ht (k H locs ls hP hD hS hl)
theorem E_ifnonnull (C : Cx p R s m args c own cc nL D tc tt A d) {x : Nat} {off : Int} (tgt : Nat) (hd : decode cc pc = .ok (.ifnonnull off, 3)) (ht : (pc : Int) + off = (tgt : Int)) (k : Ev p l e R s m args below meth c cells slots Q D A nL ws tgt lv rest) : Ev p l e R s m args below meth c cells slots Q D A nL ws pc lv (.ref x :: rest) :=
  fun H locs ls hP hD hS hl => lv_ifnonnull C.1 C.2.1 hd ht (k H locs ls hP hD hS hl)
theorem E_ifnonnullN (C : Cx p R s m args c own cc nL D tc tt A d) {off : Int} (hd : decode cc pc = .ok (.ifnonnull off, 3)) (k : Ev p l e R s m args below meth c cells slots Q D A nL ws (pc + 3) lv rest) : Ev p l e R s m args below meth c cells slots Q D A nL ws pc lv (.null :: rest) :=
  fun H locs ls hP hD hS hl => lv_ifnonnullN C.1 C.2.1 hd (k H locs ls hP hD hS hl)
theorem E_lookup (C : Cx p R s m args c own cc nL D tc tt A d) {dflt : Int} {ps : Array (Int × Int)} {len : Nat} {x : Int32} {off : Int} (tgt : Nat) (hd : decode cc pc = .ok (.lookupswitch dflt ps, len)) (hp : (ps.toList.zip (ps.toList.drop 1)).all (fun (a, next) => a.1 < next.1) = true) (ho : Op.lookupswitch.offset ps.toList dflt x.toInt = off) (ht : (pc : Int) + off = (tgt : Int)) (k : Ev p l e R s m args below meth c cells slots Q D A nL ws tgt lv rest) : Ev p l e R s m args below meth c cells slots Q D A nL ws pc lv (.int x :: rest) :=
  fun H locs ls hP hD hS hl => lv_lookup C.1 C.2.1 hd hp ho ht (k H locs ls hP hD hS hl)
theorem E_tableOut (C : Cx p R s m args c own cc nL D tc tt A d) {dflt lo hi : Int} {offs : Array Int} {len : Nat} {x : Int32} (tgt : Nat) (hd : decode cc pc = .ok (.tableswitch dflt lo hi offs, len)) (h : x.toInt < lo ∨ hi < x.toInt) (ht : (pc : Int) + dflt = (tgt : Int)) (k : Ev p l e R s m args below meth c cells slots Q D A nL ws tgt lv rest) : Ev p l e R s m args below meth c cells slots Q D A nL ws pc lv (.int x :: rest) :=
  fun H locs ls hP hD hS hl => lv_tableOut C.1 C.2.1 hd h ht (k H locs ls hP hD hS hl)
theorem E_tableIn (C : Cx p R s m args c own cc nL D tc tt A d) {dflt lo hi : Int} {offs : Array Int} {len : Nat} {x : Int32} {off : Int} (tgt : Nat) (hd : decode cc pc = .ok (.tableswitch dflt lo hi offs, len)) (h1 : ¬ x.toInt < lo) (h2 : ¬ hi < x.toInt) (ho : offs[(x.toInt - lo).toNat]? = some off) (ht : (pc : Int) + off = (tgt : Int)) (k : Ev p l e R s m args below meth c cells slots Q D A nL ws tgt lv rest) : Ev p l e R s m args below meth c cells slots Q D A nL ws pc lv (.int x :: rest) :=
  fun H locs ls hP hD hS hl => lv_tableIn C.1 C.2.1 hd h1 h2 ho ht (k H locs ls hP hD hS hl)
end EV
end
section
/-! fields, arrays, static tables, ends and calls, in the plain judgement -/
/-- a method's contract with the whole world ws: its answer and its new world as post says; nothing is made -/
def rmD (d : Nat) : Room := { frames := d, cells := 0, slots := 0, locals := 64 * d }
def Ct (l : Launch) (y : MethodName) (b : ByteArray) (n : Nat) (ret : Option FieldType) (d : Nat) (D : va_G) (tc tt : Nat → Nat) (av : List Value) (ws : va_W) (post : Option Value → va_W → Prop) : Prop :=
  ∀ sz : Nat, Met l y (Cond.code y b n ret :: WU) (rmD d) (va_Pc av (fun U => U.heap.size = sz ∧ va_P D vwCl ws U.heap ∧ va_K D vwCl (TY tc) U ∧ va_D (fun _ => True) ws ∧ Gs tt (va_A ws sz) U U.heap))
    (fun _ st o t => (∃ (r : Option Value) (ws' : va_W), o = .returned r ∧ post r ws' ∧ va_P D vwCl ws' t.heap ∧ va_D (va_A ws sz) ws') ∧ va_F (va_A ws sz) st t) 0 0 (va_A ws sz)
/-- the end of a body -/
def EQ (below : List Frame) (post : Option Value → va_W → Prop) (args : Array Value) (s : State) (D : va_G) (A : Nat → Prop) : State → Prop :=
  MQ below (fun _ st o t => (∃ (r : Option Value) (ws' : va_W), o = .returned r ∧ post r ws' ∧ va_P D vwCl ws' t.heap ∧ va_D A ws') ∧ va_F A st t) args s 0 0 A
section EV2
variable {p : Program} {l : Launch} {e : Env} {R : Room} {s : State} {m : MethodId} {args : Array Value} {below : List Frame} {meth : Method} {c : Code} {cells slots : Nat} {Q : State → Prop} {D : va_G} {tc tt : Nat → Nat} {A : Nat → Prop} {own : String} {cc : ByteArray} {nL d pc : Nat} {ws : va_W} {lv : List (Nat × Value)} {rest : List Value} {a : Nat}
theorem E_get (C : Cx p R s m args c own cc nL D tc tt A d) {idx ci k : Nat} {ty : FieldType} {fs : List Value} {v : Value} (hd : decode cc pc = .ok (.getfield idx, 3)) (F : FL own idx ci k ty) (q0 : Nat) (he : ws[q0]? = some (a, .inr (ci, fs))) (hv : fs[k]? = some v) (kk : Ev p l e R s m args below meth c cells slots Q D A nL ws (pc + 3) lv (v :: rest)) : Ev p l e R s m args below meth c cells slots Q D A nL ws pc lv (.ref a :: rest) := by
  obtain ⟨Cn, T, N, ty0, ⟨h1, h2, -, -⟩, h3, h4, -⟩ := F
  exact fun H locs ls hP hD hS hl => va_get C.1 C.2.1 C.2.2.2.2.1 h2 C.2.2.2.1 C.2.2.2.2.2.1 hP q0 he h1 k h3 (C.2.2.2.2.1 _ h4) (fun _ h => h) hv hd (kk H locs ls hP hD hS hl)
theorem E_put (C : Cx p R s m args c own cc nL D tc tt A d) {idx ci k : Nat} {ty : FieldType} {fs : List Value} {v : Value} (hd : decode cc pc = .ok (.putfield idx, 3)) (F : FLw own idx ci k ty) (q0 : Nat) (he : ws[q0]? = some (a, .inr (ci, fs))) (hn : narrow ty v = v) (hfit : fits ty v = true) (hl0 : k < fs.length) {ws' : va_W} (hw : ws.set q0 (a, .inr (ci, fs.set k v)) = ws') (kk : Ev p l e R s m args below meth c cells slots Q D A nL ws' (pc + 3) lv rest) : Ev p l e R s m args below meth c cells slots Q D A nL ws pc lv (v :: .ref a :: rest) := by
  obtain ⟨Cn, T, N, ty0, ⟨h1, h2, h5, h6⟩, h3, h4, h7, h8⟩ := F
  subst hw
  exact fun H locs ls hP hD hS hl => va_put C.1 C.2.1 C.2.2.2.2.1 h2 ty0 h5 h6 C.2.2.2.1 C.2.2.2.2.2.1 hP hD hS q0 he h1 k h3 (C.2.2.2.2.1 _ h4) (fun _ h => h) h8 h7 hn hfit hl0 hd (fun H1 locs1 hP1 hD1 hS1 => kk H1 locs1 ls hP1 hD1 hS1 hl)
theorem E_iald (C : Cx p R s m args c own cc nL D tc tt A d) {n : Nat} {f : Nat → Int32} {i : Int32} (hd : decode cc pc = .ok (.iaload, 1)) (q0 : Nat) (ha : ws[q0]? = some (a, .inl (tc 0, n, .inl f))) (hin : vp_in i n) (kk : Ev p l e R s m args below meth c cells slots Q D A nL ws (pc + 1) lv (.int (f i.toNatClampNeg) :: rest)) : Ev p l e R s m args below meth c cells slots Q D A nL ws pc lv (.int i :: .ref a :: rest) :=
  fun H locs ls hP hD hS hl => va_iald C.1 C.2.1 C.2.2.2.2.2.1 hP q0 0 ha rfl hin hd (kk H locs ls hP hD hS hl)
theorem E_bald (C : Cx p R s m args c own cc nL D tc tt A d) {n : Nat} {f : Nat → Int32} {i : Int32} (hd : decode cc pc = .ok (.baload, 1)) (q0 : Nat) (ha : ws[q0]? = some (a, .inl (tc 2, n, .inl f))) (hin : vp_in i n) (kk : Ev p l e R s m args below meth c cells slots Q D A nL ws (pc + 1) lv (.int (f i.toNatClampNeg) :: rest)) : Ev p l e R s m args below meth c cells slots Q D A nL ws pc lv (.int i :: .ref a :: rest) :=
  fun H locs ls hP hD hS hl => va_bald C.1 C.2.1 C.2.2.2.2.2.1 hP q0 2 ha rfl hin hd (kk H locs ls hP hD hS hl)
theorem E_sald (C : Cx p R s m args c own cc nL D tc tt A d) {n : Nat} {f : Nat → Int32} {i : Int32} (hd : decode cc pc = .ok (.saload, 1)) (q0 : Nat) (ha : ws[q0]? = some (a, .inl (tc 3, n, .inl f))) (hin : vp_in i n) (kk : Ev p l e R s m args below meth c cells slots Q D A nL ws (pc + 1) lv (.int (f i.toNatClampNeg) :: rest)) : Ev p l e R s m args below meth c cells slots Q D A nL ws pc lv (.int i :: .ref a :: rest) :=
  fun H locs ls hP hD hS hl => va_sald C.1 C.2.1 C.2.2.2.2.2.1 hP q0 3 ha rfl hin hd (kk H locs ls hP hD hS hl)
theorem E_lald (C : Cx p R s m args c own cc nL D tc tt A d) {n : Nat} {f : Nat → Int64} {i : Int32} (hd : decode cc pc = .ok (.laload, 1)) (q0 : Nat) (ha : ws[q0]? = some (a, .inl (tc 1, n, .inr (.inl f)))) (hin : vp_in i n) (kk : Ev p l e R s m args below meth c cells slots Q D A nL ws (pc + 1) lv (.long (f i.toNatClampNeg) :: rest)) : Ev p l e R s m args below meth c cells slots Q D A nL ws pc lv (.int i :: .ref a :: rest) :=
  fun H locs ls hP hD hS hl => va_lald C.1 C.2.1 C.2.2.2.2.2.1 hP q0 1 ha rfl hin hd (kk H locs ls hP hD hS hl)
theorem E_iast (C : Cx p R s m args c own cc nL D tc tt A d) {n : Nat} {f : Nat → Int32} {i x : Int32} (hd : decode cc pc = .ok (.iastore, 1)) (q0 : Nat) (ha : ws[q0]? = some (a, .inl (tc 0, n, .inl f))) (hin : vp_in i n) {ws' : va_W} (hw : ws.set q0 (a, .inl (tc 0, n, .inl (upd f i.toNatClampNeg x))) = ws') (kk : Ev p l e R s m args below meth c cells slots Q D A nL ws' (pc + 1) lv rest) : Ev p l e R s m args below meth c cells slots Q D A nL ws pc lv (.int x :: .int i :: .ref a :: rest) := by
  subst hw
  exact fun H locs ls hP hD hS hl => va_iast C.1 C.2.1 C.2.2.2.2.2.1 hP hD hS q0 0 ha rfl hin hd (fun H1 locs1 hP1 hD1 hS1 => kk H1 locs1 ls hP1 hD1 hS1 hl)
theorem E_bast (C : Cx p R s m args c own cc nL D tc tt A d) {n : Nat} {f : Nat → Int32} {i x : Int32} (hd : decode cc pc = .ok (.bastore, 1)) (q0 : Nat) (ha : ws[q0]? = some (a, .inl (tc 2, n, .inl f))) (hin : vp_in i n) {ws' : va_W} (hw : ws.set q0 (a, .inl (tc 2, n, .inl (upd f i.toNatClampNeg (vp_nar .byte x)))) = ws') (kk : Ev p l e R s m args below meth c cells slots Q D A nL ws' (pc + 1) lv rest) : Ev p l e R s m args below meth c cells slots Q D A nL ws pc lv (.int x :: .int i :: .ref a :: rest) := by
  subst hw
  exact fun H locs ls hP hD hS hl => va_bast C.1 C.2.1 C.2.2.2.2.2.1 hP hD hS q0 2 ha rfl hin hd (fun H1 locs1 hP1 hD1 hS1 => kk H1 locs1 ls hP1 hD1 hS1 hl)
theorem E_sast (C : Cx p R s m args c own cc nL D tc tt A d) {n : Nat} {f : Nat → Int32} {i x : Int32} (hd : decode cc pc = .ok (.sastore, 1)) (q0 : Nat) (ha : ws[q0]? = some (a, .inl (tc 3, n, .inl f))) (hin : vp_in i n) {ws' : va_W} (hw : ws.set q0 (a, .inl (tc 3, n, .inl (upd f i.toNatClampNeg (vp_nar .short x)))) = ws') (kk : Ev p l e R s m args below meth c cells slots Q D A nL ws' (pc + 1) lv rest) : Ev p l e R s m args below meth c cells slots Q D A nL ws pc lv (.int x :: .int i :: .ref a :: rest) := by
  subst hw
  exact fun H locs ls hP hD hS hl => va_sast C.1 C.2.1 C.2.2.2.2.2.1 hP hD hS q0 3 ha rfl hin hd (fun H1 locs1 hP1 hD1 hS1 => kk H1 locs1 ls hP1 hD1 hS1 hl)
theorem E_last (C : Cx p R s m args c own cc nL D tc tt A d) {n : Nat} {f : Nat → Int64} {i : Int32} {x : Int64} (hd : decode cc pc = .ok (.lastore, 1)) (q0 : Nat) (ha : ws[q0]? = some (a, .inl (tc 1, n, .inr (.inl f)))) (hin : vp_in i n) {ws' : va_W} (hw : ws.set q0 (a, .inl (tc 1, n, .inr (.inl (vp_updL f i.toNatClampNeg x)))) = ws') (kk : Ev p l e R s m args below meth c cells slots Q D A nL ws' (pc + 1) lv rest) : Ev p l e R s m args below meth c cells slots Q D A nL ws pc lv (.long x :: .int i :: .ref a :: rest) := by
  subst hw
  exact fun H locs ls hP hD hS hl => va_last C.1 C.2.1 C.2.2.2.2.2.1 hP hD hS q0 1 ha rfl hin hd (fun H1 locs1 hP1 hD1 hS1 => kk H1 locs1 ls hP1 hD1 hS1 hl)
theorem E_alen (C : Cx p R s m args c own cc nL D tc tt A d) (hd : decode cc pc = .ok (.arraylength, 1)) (q0 : Nat) {x : vp_A} (j : Nat) {q : ClassId × FieldType} (hj : (TY tc)[j]? = some q) (ha : ws[q0]? = some (a, .inl (q.1, x))) {v : Int32} (hv : Int32.ofNat x.1 = v) (kk : Ev p l e R s m args below meth c cells slots Q D A nL ws (pc + 1) lv (.int v :: rest)) : Ev p l e R s m args below meth c cells slots Q D A nL ws pc lv (.ref a :: rest) :=
  fun H locs ls hP hD hS hl => va_alen C.1 C.2.1 C.2.2.2.2.2.1 hP q0 j (ty := q.2) ha hj hv hd (kk H locs ls hP hD hS hl)
theorem E_aald (C : Cx p R s m args c own cc nL D tc tt A d) {n : Nat} {f : Nat → Option Nat} {i : Int32} (hd : decode cc pc = .ok (.aaload, 1)) (q0 : Nat) (ha : ws[q0]? = some (a, .inl (tc 5, n, .inr (.inr (.inr (.inr f)))))) (hin : vp_in i n) (kk : Ev p l e R s m args below meth c cells slots Q D A nL ws (pc + 1) lv (va_rf (f i.toNatClampNeg) :: rest)) : Ev p l e R s m args below meth c cells slots Q D A nL ws pc lv (.int i :: .ref a :: rest) :=
  fun H locs ls hP hD hS hl => va_aldq C.1 C.2.1 C.2.2.2.2.2.1 hP q0 5 ha rfl hin hd (kk H locs ls hP hD hS hl)
/-- the frame's end: an int, and the other kinds -/
theorem E_iret (C : Cx p R s m args c own cc nL D tc tt A d) {post : Option Value → va_W → Prop} {x : Int32} (hr : meth.sig.returnType = some .int) (hlocks : meth.locks = false) (hd : decode cc pc = .ok (.ireturn, 1)) (h : post (some (.int x)) ws) : Ev p l e R s m args below meth c 0 0 (EQ below post args s D A) D A nL ws pc lv [.int x] :=
  fun H locs ls hP hD hS hl => W.iret C.1 C.2.1 hr (fun t ht hW => ⟨⟨_, ws, rfl, h, by rw [ht]; exact hP, hD⟩, hS.F ht⟩) hS.2.2 hd hlocks
theorem E_zret (C : Cx p R s m args c own cc nL D tc tt A d) {post : Option Value → va_W → Prop} {x : Int32} (hr : meth.sig.returnType = some .boolean) (hlocks : meth.locks = false) (hd : decode cc pc = .ok (.ireturn, 1)) (hn : narrow .boolean (.int x) = .int x) (h : post (some (.int x)) ws) : Ev p l e R s m args below meth c 0 0 (EQ below post args s D A) D A nL ws pc lv [.int x] :=
  fun H locs ls hP hD hS hl => W.zret C.1 C.2.1 hr hn (fun t ht hW => ⟨⟨_, ws, rfl, h, by rw [ht]; exact hP, hD⟩, hS.F ht⟩) hS.2.2 hd (hlocks := hlocks)
theorem E_lret (C : Cx p R s m args c own cc nL D tc tt A d) {post : Option Value → va_W → Prop} {x : Int64} (hr : meth.sig.returnType = some .long) (hlocks : meth.locks = false) (hd : decode cc pc = .ok (.lreturn, 1)) (h : post (some (.long x)) ws) : Ev p l e R s m args below meth c 0 0 (EQ below post args s D A) D A nL ws pc lv [.long x] :=
  fun H locs ls hP hD hS hl => W.lret C.1 C.2.1 hr (fun t ht hW => ⟨⟨_, ws, rfl, h, by rw [ht]; exact hP, hD⟩, hS.F ht⟩) hS.2.2 hd (hlocks := hlocks)
theorem E_vret (C : Cx p R s m args c own cc nL D tc tt A d) {post : Option Value → va_W → Prop} (hr : meth.sig.returnType = none) (hlocks : meth.locks = false) (hd : decode cc pc = .ok (.return_, 1)) (h : post none ws) : Ev p l e R s m args below meth c 0 0 (EQ below post args s D A) D A nL ws pc lv [] :=
  fun H locs ls hP hD hS hl => W.vret C.1 C.2.1 hr (fun t ht hW => ⟨⟨_, ws, rfl, h, by rw [ht]; exact hP, hD⟩, hS.F ht⟩) hS.2.2 hd (hlocks := hlocks)
end EV2
end
section
/-! contracts: their beginning, calls, static tables -/
def ML (own : String) (idx : Nat) (y : MethodName) (b : ByteArray) (n : Nat) (ret : Option FieldType) (np : Nat) : Prop :=
  Cond.methodLink own idx y ∈ WU ∧ Cond.code y b n ret ∈ WU ∧ Cond.initialized y.cls ∈ WU ∧ (y.cls ≠ "java/lang/invoke/MethodHandle" ∧ y.cls ≠ "java/lang/invoke/VarHandle" ∧ (parseMethodDescriptor y.desc).map (fun d => d.parameters.length) = some np) ∧ n ≤ 45
def MV (own : String) (idx ci : Nat) (y : MethodName) (b : ByteArray) (n : Nat) (ret : Option FieldType) (np : Nat) : Prop :=
  ML own idx y b n ret np ∧ Cond.instanceMethod y ∈ WU ∧ Cond.selects y.cls y y ∈ WU ∧ ∃ (T : u_T) (N : Nat), vwCl[ci]? = some (y.cls, T, N)
def MS (own : String) (idx : Nat) (y : MethodName) (b : ByteArray) (n : Nat) (ret : Option FieldType) (np : Nat) : Prop :=
  ML own idx y b n ret np ∧ Cond.static y ∈ WU
/-- the addresses of a world, and which it may write -/
theorem vaA_sub {A : Nat → Prop} {ws : va_W} {s0 H : Heap} {locs : List Loc} (hD : va_D A ws) (hA : ∀ q : Nat, s0.size ≤ q → A q) (hS : va_S A s0 H locs) : ∀ q, va_A ws H.size q → A q := by
  intro q h
  rcases h with ⟨k, e, h⟩ | h
  · exact hD.2 k (q, e) h
  · exact hA q (Nat.le_trans hS.1 h)
section EV3
variable {p : Program} {l : Launch} {e : Env} {R : Room} {s : State} {m : MethodId} {args : Array Value} {below : List Frame} {meth : Method} {c : Code} {cells slots : Nat} {Q : State → Prop} {D : va_G} {tc tt : Nat → Nat} {A : Nat → Prop} {own : String} {cc : ByteArray} {nL d pc : Nat} {ws : va_W} {lv : List (Nat × Value)} {rest : List Value} {a : Nat}
theorem Ct.of {y : MethodName} {b : ByteArray} {n : Nat} {ret : Option FieldType} {av : List Value} {post : Option Value → va_W → Prop} (hy : plainName y.cls = true) (hn : (lg_sl av).length ≤ n)
    (body : ∀ (p : Program) (e : Env) (R : Room) (s : State) (m : MethodId) (args : Array Value) (below : List Frame) (meth : Method) (c : Code) (A : Nat → Prop), Cx p R s m args c y.cls b n D tc tt A d → meth.sig.returnType = ret → meth.locks = false → Ev p l e R s m args below meth c 0 0 (EQ below post args s D A) D A n ws 0 (lv_args 0 av) []) : Ct l y b n ret d D tc tt av ws post := by
  intro sz
  refine Met.ofW (cc := b) (maxL := n) (ret := ret) hy rfl ?_
  intro p e s m args below meth c s₁ B hml hv
  obtain ⟨rfl, hsz, hP, hK, hD0, hG⟩ := hv
  have hts := atoms_spec (ws := Cond.code y b n ret :: WU) B.pre
  have hown : s.vm.findClass y.cls = some m.cls := findClass_of_methodNamed B.named
  subst hsz
  have hD := hD0.self (sz := s.heap.size)
  have C0 : Cx p (headSpec (Cond.code y b n ret :: WU) (rmD d)).room s m av.toArray c y.cls b n D tc tt (va_A ws s.heap.size) d :=
    ⟨B.exec, B.bytes, hml, hown, fun w h => hts w (List.mem_cons_of_mem _ h), hK, fun q h => Or.inr h, hG, Nat.le_refl _, Nat.le_refl _⟩
  have hl := lv_entry av (n := n) hn
  rw [lg_entry_eq]
  exact body p e _ s m av.toArray below meth c (va_A ws s.heap.size) C0 B.returns B.notSynchronized s.heap [] _ hP hD va_S.rf hl
/-- a call that has run goes on, by its contract -/
theorem Ev.call {st0 : List Value} {post : Option Value → va_W → Prop} {H : Heap} {locs : List Loc} {ls : Array Slot} (hP : va_P D vwCl ws H) (hD : va_D A ws) (hS : va_S A s.heap H locs) (hl : lv_has ls nL lv) (hf : ∀ q, va_A ws H.size q → A q)
    (hr : va_Run p l e R s m args below meth c H locs cells slots 0 0 (F0 m pc ls st0) rest (fun st o t => (∃ (r : Option Value) (ws' : va_W), o = .returned r ∧ post r ws' ∧ va_P D vwCl ws' t.heap ∧ va_D (va_A ws H.size) ws') ∧ va_F (va_A ws H.size) st t) (va_A ws H.size))
    (kk : ∀ (r : Option Value) (ws' : va_W), post r ws' → Ev p l e R s m args below meth c cells slots Q D A nL ws' (pc + 3) lv (r.toList ++ rest)) : W p l e R s m args below meth c H locs cells slots Q (F0 m pc ls st0) := by
  intro T hT X
  obtain ⟨v, st₀, t, T', L, h0, X', hL, e1, e2, ⟨⟨r, ws', hv, hp, hP', hD'⟩, hz, hk⟩, st⟩ := hr T hT X
  cases hv
  rw [h0] at hz hk
  obtain ⟨t2, a1, b1⟩ := kk v ws' hp T'.heap (locs ++ L) ls (by rw [e1]; exact hP') (hD'.weaken (fun k q _ h => hf q.1 h))
    ⟨Nat.le_trans hS.1 (by rw [e1]; exact hz), fun q h1 h2 => by rw [e1, hk q (Nat.lt_of_lt_of_le h1 hS.1) (fun z => h2 (hf q z))]; exact hS.2.1 q h1 h2, fun q hq => by
      rcases List.mem_append.mp hq with h | h
      · exact hS.2.2 q h
      · exact hf _ (hL q h)⟩ hl T' rfl X'
  exact ⟨t2, st t2 a1, b1⟩
theorem blindC {av : List Value} {sz : Nat} : FrameBlind (va_Pc av (fun U => U.heap.size = sz ∧ va_P D vwCl ws U.heap ∧ va_K D vwCl (TY tc) U ∧ va_D (fun _ => True) ws ∧ Gs tt (va_A ws sz) U U.heap)) := fun a U g mk q => by
  obtain ⟨q0, q1, qP, qK, qD, qG⟩ := q
  exact ⟨q0, q1, qP, va_K.moved (u := U) (U := U.calling g mk a) (Vm.Alike.refl U.vm) qK, qD, Gs.moved (u := U) (U := U.calling g mk a) (Vm.Alike.refl U.vm) qG⟩
theorem preC {av : List Value} {H : Heap} {locs : List Loc} (C : Cx p R s m args c own cc nL D tc tt A d) (hP : va_P D vwCl ws H) (hD : va_D A ws) (hS : va_S A s.heap H locs) : ∀ U : State, U.heap = H → s.WarmedH U.vm → (va_Pc av (fun U => U.heap.size = H.size ∧ va_P D vwCl ws U.heap ∧ va_K D vwCl (TY tc) U ∧ va_D (fun _ => True) ws ∧ Gs tt (va_A ws H.size) U U.heap)) av.toArray U := fun U hU hW =>
  ⟨rfl, by rw [hU], by rw [hU]; exact hP, va_K.moved hW.alike C.2.2.2.2.2.1, hD.weaken (fun _ _ _ _ => trivial), by rw [hU]; exact (((C.2.2.2.2.2.2.2.1).kept hS.2.1).narrow (vaA_sub hD C.2.2.2.2.2.2.1 hS)).moved hW.alike⟩
theorem callBC {idx n np d' : Nat} {y : MethodName} {b : ByteArray} {ret : Option FieldType} (C : Cx p R s m args c own cc nL D tc tt A d) (L : ML own idx y b n ret np) (hdp : d' + 1 ≤ d) : CallB R s args own idx y b n ret (Cond.code y b n ret :: WU) (rmD d') 0 0 np :=
  callB_of np C.2.2.2.2.1 (goodIn_WU L.2.1 (WU_good _ L.2.1) (fun _ h => h)) rfl rfl rfl (C.2.2.2.2.1 _ L.2.2.1) (C.2.2.2.2.1 _ L.1) L.2.2.2.1 ⟨Nat.le_trans hdp C.2.2.2.2.2.2.2.2.1, Nat.le_trans (by show 8 + (n + 11) + 64 * d' ≤ 64 * d; have := L.2.2.2.2; omega) C.2.2.2.2.2.2.2.2.2⟩
theorem E_callV (C : Cx p R s m args c own cc nL D tc tt A d) {idx ci n np : Nat} {y : MethodName} {b : ByteArray} {ret : Option FieldType} {fs : List Value} {st : List Value} {post : Option Value → va_W → Prop} (hd : decode cc pc = .ok (.invokevirtual idx, 3)) (L : MV own idx ci y b n ret np) (q0 : Nat) {d' : Nat} (As : List Value) (hc : Ct l y b n ret d' D tc tt (.ref a :: As) ws post) (he : ws[q0]? = some (a, .inr (ci, fs))) (hst : st = As.reverse ++ .ref a :: rest) (hn : As.length = np) (hdp : d' + 1 ≤ d) (hrs : (rest.map fun v => v.category).sum ≤ 8)
    (kk : ∀ (r : Option Value) (ws' : va_W), post r ws' → Ev p l e R s m args below meth c cells slots Q D A nL ws' (pc + 3) lv (r.toList ++ rest)) (hcs : cells ≤ R.cells ∧ slots ≤ R.slots := by exact ⟨Nat.zero_le _, Nat.zero_le _⟩) : Ev p l e R s m args below meth c cells slots Q D A nL ws pc lv st := by
  intro H locs ls hP hD hS hl
  obtain ⟨L1, hi, hse, T, N, hcl⟩ := L
  exact Ev.call hP hD hS hl (vaA_sub hD C.2.2.2.2.2.2.1 hS)
    (va_runV (As := As) (rest := rest) ⟨C.1, C.2.1, C.2.2.1, C.2.2.2.1, C.2.2.2.2.1⟩ (hc H.size) ⟨callBC C L1 hdp, C.2.2.2.2.1 _ hi, C.2.2.2.2.1 _ hse⟩ ⟨blindC, va_recv C.2.2.2.2.2.1 hP hcl he, preC C hP hD hS⟩ rfl hn hl.1 hst (lv_room hrs) hd hcs) kk
theorem E_callS (C : Cx p R s m args c own cc nL D tc tt A d) {idx n np : Nat} {y : MethodName} {b : ByteArray} {ret : Option FieldType} {st : List Value} {post : Option Value → va_W → Prop} (hd : decode cc pc = .ok (.invokestatic idx, 3)) (L : MS own idx y b n ret np) {d' : Nat} (As : List Value) (hc : Ct l y b n ret d' D tc tt As ws post) (hst : st = As.reverse ++ rest) (hn : As.length = np) (hdp : d' + 1 ≤ d) (hrs : (rest.map fun v => v.category).sum ≤ 8)
    (kk : ∀ (r : Option Value) (ws' : va_W), post r ws' → Ev p l e R s m args below meth c cells slots Q D A nL ws' (pc + 3) lv (r.toList ++ rest)) (hcs : cells ≤ R.cells ∧ slots ≤ R.slots := by exact ⟨Nat.zero_le _, Nat.zero_le _⟩) : Ev p l e R s m args below meth c cells slots Q D A nL ws pc lv st := by
  intro H locs ls hP hD hS hl
  obtain ⟨L1, hs⟩ := L
  exact Ev.call hP hD hS hl (vaA_sub hD C.2.2.2.2.2.2.1 hS)
    (va_runS (As := As) (rest := rest) ⟨C.1, C.2.1, C.2.2.1, C.2.2.2.1, C.2.2.2.2.1⟩ (hc H.size) ⟨callBC C L1 hdp, C.2.2.2.2.1 _ hs⟩ ⟨blindC, preC C hP hD hS⟩ rfl hn hl.1 hst (lv_room hrs) hd hcs) kk
/-- private constructors and the like aside: fields read of static tables -/
def ST (own : String) (idx : Nat) (C n : String) : Prop := Cond.fieldLink own idx C n "[I" ∈ WU
theorem E_gets (C : Cx p R s m args c own cc nL D tc tt A d) {idx t : Nat} {Cn n : String} (hd : decode cc pc = .ok (.getstatic idx, 3)) (L : ST own idx Cn n) (hZ : va_Z Cn n "[I" (.ref t) A s s.heap) (k : Ev p l e R s m args below meth c cells slots Q D A nL ws (pc + 3) lv (.ref t :: rest)) : Ev p l e R s m args below meth c cells slots Q D A nL ws pc lv rest :=
  fun H locs ls hP hD hS hl => va_gets C.1 C.2.1 hZ hS C.2.2.2.1 (C.2.2.2.2.1 _ L) (fun _ h => h) hd (k H locs ls hP hD hS hl)
theorem E_tald (C : Cx p R s m args c own cc nL D tc tt A d) {t N : Nat} {f : Nat → Int32} {i : Int32} (hd : decode cc pc = .ok (.iaload, 1)) (hT : va_T .int t N (fun j => .int (f j)) A s s.heap) (hin : vp_in i N) (k : Ev p l e R s m args below meth c cells slots Q D A nL ws (pc + 1) lv (.int (f i.toNatClampNeg) :: rest)) : Ev p l e R s m args below meth c cells slots Q D A nL ws pc lv (.int i :: .ref t :: rest) :=
  fun H locs ls hP hD hS hl => va_ti C.1 C.2.1 hT hS hin rfl hd (k H locs ls hP hD hS hl)
theorem E_tlen (C : Cx p R s m args c own cc nL D tc tt A d) {t N : Nat} {f : Nat → Int32} (hd : decode cc pc = .ok (.arraylength, 1)) (hT : va_T .int t N (fun j => .int (f j)) A s s.heap) {v : Int32} (hv : Int32.ofNat N = v) (k : Ev p l e R s m args below meth c cells slots Q D A nL ws (pc + 1) lv (.int v :: rest)) : Ev p l e R s m args below meth c cells slots Q D A nL ws pc lv (.ref t :: rest) :=
  fun H locs ls hP hD hS hl => va_tlen C.1 C.2.1 hT hS hv hd (k H locs ls hP hD hS hl)
theorem E_aaldT (C : Cx p R s m args c own cc nL D tc tt A d) {n : Nat} {f : Nat → Option Nat} {i : Int32} {ty : FieldType} {cA : ClassId} (j : Nat) (hj : (TY tc)[j]? = some (cA, ty)) (hty : ty.isReference = true) (hd : decode cc pc = .ok (.aaload, 1)) (q0 : Nat) (ha : ws[q0]? = some (a, .inl (cA, n, .inr (.inr (.inr (.inr f)))))) (hin : vp_in i n) (kk : Ev p l e R s m args below meth c cells slots Q D A nL ws (pc + 1) lv (va_rf (f i.toNatClampNeg) :: rest)) : Ev p l e R s m args below meth c cells slots Q D A nL ws pc lv (.int i :: .ref a :: rest) := by
  intro H locs ls hP hD hS hl
  have hlt : i.toNatClampNeg < n := Nat.not_le.mp fun q => hin (Or.inr q)
  exact W.aald (v := va_rf (f i.toNatClampNeg)) (ty := ty) C.1 C.2.1 (hP q0 _ ha) ((C.2.2.2.2.2.1.2 j _ hj).1 n (fun j => va_rf (f j))) hty (fun q => by cases q) (by show ¬ (i < 0 ∨ (arrV _ _ _).slots.size ≤ _); rw [arrV_size]; exact hin) (by show (arrV _ _ _).slots[_]? = _; rw [arrV_read _ _ hlt]) rfl rfl hd (kk H locs ls hP hD hS hl)
theorem E_aret (C : Cx p R s m args c own cc nL D tc tt A d) {post : Option Value → va_W → Prop} {v : Value} {rt : FieldType} (hr : meth.sig.returnType = some rt) (hrt : (∃ n, rt = .object n) ∨ ∃ t, rt = .array t) (hv : v = .null ∨ ∃ a, v = .ref a) (hlocks : meth.locks = false) (hd : decode cc pc = .ok (.areturn, 1)) (h : post (some v) ws) : Ev p l e R s m args below meth c 0 0 (EQ below post args s D A) D A nL ws pc lv [v] :=
  fun H locs ls hP hD hS hl => W.aret C.1 C.2.1 hr hrt hv (fun t ht hW => ⟨⟨_, ws, rfl, h, by rw [ht]; exact hP, hD⟩, hS.F ht⟩) hS.2.2 hd (hlocks := hlocks)
end EV3
end
section
/-! the rows of the tables, by their places -/
theorem layX0_0 : u_lay RX0 TX0 0 ∈ WU := WU_of (mT2 (List.mem_of_getElem? (i := 42) rfl)) rfl
theorem layX0_1 : u_lay RX0 TX0 1 ∈ WU := WU_of (mT2 (List.mem_of_getElem? (i := 44) rfl)) rfl
theorem layX0_2 : u_lay RX0 TX0 2 ∈ WU := WU_of (mT2 (List.mem_of_getElem? (i := 46) rfl)) rfl
theorem layX0_3 : u_lay RX0 TX0 3 ∈ WU := WU_of (mT2 (List.mem_of_getElem? (i := 48) rfl)) rfl
theorem kc0 : KC 0 RX0 TX0 4 tyX0 := ⟨rfl, (show ∀ w ∈ [u_lay RX0 TX0 0, u_lay RX0 TX0 1, u_lay RX0 TX0 2, u_lay RX0 TX0 3], w ∈ WU from List.forall_mem_cons.mpr ⟨layX0_0, List.forall_mem_cons.mpr ⟨layX0_1, List.forall_mem_cons.mpr ⟨layX0_2, List.forall_mem_cons.mpr ⟨layX0_3, fun _ h => absurd h List.not_mem_nil⟩⟩⟩⟩), tyX0_ok, nmX0⟩
theorem layX1_0 : u_lay RX1 TX1 0 ∈ WU := WU_of (mT1 (List.mem_of_getElem? (i := 87) rfl)) rfl
theorem layX1_1 : u_lay RX1 TX1 1 ∈ WU := WU_of (mT1 (List.mem_of_getElem? (i := 89) rfl)) rfl
theorem layX1_2 : u_lay RX1 TX1 2 ∈ WU := WU_of (mT1 (List.mem_of_getElem? (i := 91) rfl)) rfl
theorem layX1_3 : u_lay RX1 TX1 3 ∈ WU := WU_of (mT1 (List.mem_of_getElem? (i := 93) rfl)) rfl
theorem layX1_4 : u_lay RX1 TX1 4 ∈ WU := WU_of (mT1 (List.mem_of_getElem? (i := 95) rfl)) rfl
theorem layX1_5 : u_lay RX1 TX1 5 ∈ WU := WU_of (mT1 (List.mem_of_getElem? (i := 97) rfl)) rfl
theorem kc1 : KC 1 RX1 TX1 6 tyX1 := ⟨rfl, (show ∀ w ∈ [u_lay RX1 TX1 0, u_lay RX1 TX1 1, u_lay RX1 TX1 2, u_lay RX1 TX1 3, u_lay RX1 TX1 4, u_lay RX1 TX1 5], w ∈ WU from List.forall_mem_cons.mpr ⟨layX1_0, List.forall_mem_cons.mpr ⟨layX1_1, List.forall_mem_cons.mpr ⟨layX1_2, List.forall_mem_cons.mpr ⟨layX1_3, List.forall_mem_cons.mpr ⟨layX1_4, List.forall_mem_cons.mpr ⟨layX1_5, fun _ h => absurd h List.not_mem_nil⟩⟩⟩⟩⟩⟩), tyX1_ok, nmX1⟩
theorem layX2_0 : u_lay RX2 TX2 0 ∈ WU := WU_of (mT1 (List.mem_of_getElem? (i := 232) rfl)) rfl
theorem kc2 : KC 2 RX2 TX2 1 tyX2 := ⟨rfl, (show ∀ w ∈ [u_lay RX2 TX2 0], w ∈ WU from List.forall_mem_cons.mpr ⟨layX2_0, fun _ h => absurd h List.not_mem_nil⟩), tyX2_ok, nmX2⟩
theorem layX3_0 : u_lay RX3 TX3 0 ∈ WU := WU_of (mT1 (List.mem_of_getElem? (i := 163) rfl)) rfl
theorem layX3_1 : u_lay RX3 TX3 1 ∈ WU := WU_of (mT1 (List.mem_of_getElem? (i := 165) rfl)) rfl
theorem layX3_2 : u_lay RX3 TX3 2 ∈ WU := WU_of (mT1 (List.mem_of_getElem? (i := 167) rfl)) rfl
theorem layX3_3 : u_lay RX3 TX3 3 ∈ WU := WU_of (mT1 (List.mem_of_getElem? (i := 169) rfl)) rfl
theorem layX3_4 : u_lay RX3 TX3 4 ∈ WU := WU_of (mT1 (List.mem_of_getElem? (i := 171) rfl)) rfl
theorem layX3_5 : u_lay RX3 TX3 5 ∈ WU := WU_of (mT1 (List.mem_of_getElem? (i := 173) rfl)) rfl
theorem layX3_6 : u_lay RX3 TX3 6 ∈ WU := WU_of (mT1 (List.mem_of_getElem? (i := 175) rfl)) rfl
theorem layX3_7 : u_lay RX3 TX3 7 ∈ WU := WU_of (mT1 (List.mem_of_getElem? (i := 177) rfl)) rfl
theorem layX3_8 : u_lay RX3 TX3 8 ∈ WU := WU_of (mT1 (List.mem_of_getElem? (i := 179) rfl)) rfl
theorem layX3_9 : u_lay RX3 TX3 9 ∈ WU := WU_of (mT1 (List.mem_of_getElem? (i := 181) rfl)) rfl
theorem layX3_10 : u_lay RX3 TX3 10 ∈ WU := WU_of (mT1 (List.mem_of_getElem? (i := 183) rfl)) rfl
theorem layX3_11 : u_lay RX3 TX3 11 ∈ WU := WU_of (mT1 (List.mem_of_getElem? (i := 185) rfl)) rfl
theorem layX3_12 : u_lay RX3 TX3 12 ∈ WU := WU_of (mT1 (List.mem_of_getElem? (i := 187) rfl)) rfl
theorem kc3 : KC 3 RX3 TX3 13 tyX3 := ⟨rfl, (show ∀ w ∈ [u_lay RX3 TX3 0, u_lay RX3 TX3 1, u_lay RX3 TX3 2, u_lay RX3 TX3 3, u_lay RX3 TX3 4, u_lay RX3 TX3 5, u_lay RX3 TX3 6, u_lay RX3 TX3 7, u_lay RX3 TX3 8, u_lay RX3 TX3 9, u_lay RX3 TX3 10, u_lay RX3 TX3 11, u_lay RX3 TX3 12], w ∈ WU from List.forall_mem_cons.mpr ⟨layX3_0, List.forall_mem_cons.mpr ⟨layX3_1, List.forall_mem_cons.mpr ⟨layX3_2, List.forall_mem_cons.mpr ⟨layX3_3, List.forall_mem_cons.mpr ⟨layX3_4, List.forall_mem_cons.mpr ⟨layX3_5, List.forall_mem_cons.mpr ⟨layX3_6, List.forall_mem_cons.mpr ⟨layX3_7, List.forall_mem_cons.mpr ⟨layX3_8, List.forall_mem_cons.mpr ⟨layX3_9, List.forall_mem_cons.mpr ⟨layX3_10, List.forall_mem_cons.mpr ⟨layX3_11, List.forall_mem_cons.mpr ⟨layX3_12, fun _ h => absurd h List.not_mem_nil⟩⟩⟩⟩⟩⟩⟩⟩⟩⟩⟩⟩⟩), tyX3_ok, nmX3⟩
theorem layX4_0 : u_lay RX4 TX4 0 ∈ WU := WU_of (mT2 (List.mem_of_getElem? (i := 14) rfl)) rfl
theorem layX4_1 : u_lay RX4 TX4 1 ∈ WU := WU_of (mT2 (List.mem_of_getElem? (i := 16) rfl)) rfl
theorem layX4_2 : u_lay RX4 TX4 2 ∈ WU := WU_of (mT2 (List.mem_of_getElem? (i := 18) rfl)) rfl
theorem layX4_3 : u_lay RX4 TX4 3 ∈ WU := WU_of (mT2 (List.mem_of_getElem? (i := 20) rfl)) rfl
theorem layX4_4 : u_lay RX4 TX4 4 ∈ WU := WU_of (mT2 (List.mem_of_getElem? (i := 22) rfl)) rfl
theorem layX4_5 : u_lay RX4 TX4 5 ∈ WU := WU_of (mT2 (List.mem_of_getElem? (i := 24) rfl)) rfl
theorem layX4_6 : u_lay RX4 TX4 6 ∈ WU := WU_of (mT2 (List.mem_of_getElem? (i := 26) rfl)) rfl
theorem kc4 : KC 4 RX4 TX4 7 tyX4 := ⟨rfl, (show ∀ w ∈ [u_lay RX4 TX4 0, u_lay RX4 TX4 1, u_lay RX4 TX4 2, u_lay RX4 TX4 3, u_lay RX4 TX4 4, u_lay RX4 TX4 5, u_lay RX4 TX4 6], w ∈ WU from List.forall_mem_cons.mpr ⟨layX4_0, List.forall_mem_cons.mpr ⟨layX4_1, List.forall_mem_cons.mpr ⟨layX4_2, List.forall_mem_cons.mpr ⟨layX4_3, List.forall_mem_cons.mpr ⟨layX4_4, List.forall_mem_cons.mpr ⟨layX4_5, List.forall_mem_cons.mpr ⟨layX4_6, fun _ h => absurd h List.not_mem_nil⟩⟩⟩⟩⟩⟩⟩), tyX4_ok, nmX4⟩
theorem layX5_0 : u_lay RX5 TX5 0 ∈ WU := WU_of (mT1 (List.mem_of_getElem? (i := 43) rfl)) rfl
theorem layX5_1 : u_lay RX5 TX5 1 ∈ WU := WU_of (mT1 (List.mem_of_getElem? (i := 45) rfl)) rfl
theorem layX5_2 : u_lay RX5 TX5 2 ∈ WU := WU_of (mT1 (List.mem_of_getElem? (i := 47) rfl)) rfl
theorem layX5_3 : u_lay RX5 TX5 3 ∈ WU := WU_of (mT1 (List.mem_of_getElem? (i := 49) rfl)) rfl
theorem layX5_4 : u_lay RX5 TX5 4 ∈ WU := WU_of (mT1 (List.mem_of_getElem? (i := 51) rfl)) rfl
theorem kc5 : KC 5 RX5 TX5 5 tyX5 := ⟨rfl, (show ∀ w ∈ [u_lay RX5 TX5 0, u_lay RX5 TX5 1, u_lay RX5 TX5 2, u_lay RX5 TX5 3, u_lay RX5 TX5 4], w ∈ WU from List.forall_mem_cons.mpr ⟨layX5_0, List.forall_mem_cons.mpr ⟨layX5_1, List.forall_mem_cons.mpr ⟨layX5_2, List.forall_mem_cons.mpr ⟨layX5_3, List.forall_mem_cons.mpr ⟨layX5_4, fun _ h => absurd h List.not_mem_nil⟩⟩⟩⟩⟩), tyX5_ok, nmX5⟩
theorem layX6_0 : u_lay RX6 TX6 0 ∈ WU := WU_of (mT1 (List.mem_of_getElem? (i := 117) rfl)) rfl
theorem layX6_1 : u_lay RX6 TX6 1 ∈ WU := WU_of (mT1 (List.mem_of_getElem? (i := 119) rfl)) rfl
theorem layX6_2 : u_lay RX6 TX6 2 ∈ WU := WU_of (mT1 (List.mem_of_getElem? (i := 121) rfl)) rfl
theorem layX6_3 : u_lay RX6 TX6 3 ∈ WU := WU_of (mT1 (List.mem_of_getElem? (i := 123) rfl)) rfl
theorem layX6_4 : u_lay RX6 TX6 4 ∈ WU := WU_of (mT1 (List.mem_of_getElem? (i := 125) rfl)) rfl
theorem layX6_5 : u_lay RX6 TX6 5 ∈ WU := WU_of (mT1 (List.mem_of_getElem? (i := 127) rfl)) rfl
theorem layX6_6 : u_lay RX6 TX6 6 ∈ WU := WU_of (mT1 (List.mem_of_getElem? (i := 129) rfl)) rfl
theorem kc6 : KC 6 RX6 TX6 7 tyX6 := ⟨rfl, (show ∀ w ∈ [u_lay RX6 TX6 0, u_lay RX6 TX6 1, u_lay RX6 TX6 2, u_lay RX6 TX6 3, u_lay RX6 TX6 4, u_lay RX6 TX6 5, u_lay RX6 TX6 6], w ∈ WU from List.forall_mem_cons.mpr ⟨layX6_0, List.forall_mem_cons.mpr ⟨layX6_1, List.forall_mem_cons.mpr ⟨layX6_2, List.forall_mem_cons.mpr ⟨layX6_3, List.forall_mem_cons.mpr ⟨layX6_4, List.forall_mem_cons.mpr ⟨layX6_5, List.forall_mem_cons.mpr ⟨layX6_6, fun _ h => absurd h List.not_mem_nil⟩⟩⟩⟩⟩⟩⟩), tyX6_ok, nmX6⟩
theorem layX7_0 : u_lay RX7 TX7 0 ∈ WU := WU_of (mT2 (List.mem_of_getElem? (i := 67) rfl)) rfl
theorem layX7_1 : u_lay RX7 TX7 1 ∈ WU := WU_of (mT2 (List.mem_of_getElem? (i := 69) rfl)) rfl
theorem layX7_2 : u_lay RX7 TX7 2 ∈ WU := WU_of (mT2 (List.mem_of_getElem? (i := 71) rfl)) rfl
theorem layX7_3 : u_lay RX7 TX7 3 ∈ WU := WU_of (mT2 (List.mem_of_getElem? (i := 73) rfl)) rfl
theorem layX7_4 : u_lay RX7 TX7 4 ∈ WU := WU_of (mT2 (List.mem_of_getElem? (i := 75) rfl)) rfl
theorem kc7 : KC 7 RX7 TX7 5 tyX7 := ⟨rfl, (show ∀ w ∈ [u_lay RX7 TX7 0, u_lay RX7 TX7 1, u_lay RX7 TX7 2, u_lay RX7 TX7 3, u_lay RX7 TX7 4], w ∈ WU from List.forall_mem_cons.mpr ⟨layX7_0, List.forall_mem_cons.mpr ⟨layX7_1, List.forall_mem_cons.mpr ⟨layX7_2, List.forall_mem_cons.mpr ⟨layX7_3, List.forall_mem_cons.mpr ⟨layX7_4, fun _ h => absurd h List.not_mem_nil⟩⟩⟩⟩⟩), tyX7_ok, nmX7⟩
theorem layX8_0 : u_lay RX8 TX8 0 ∈ WU := WU_of (mT1 (List.mem_of_getElem? (i := 206) rfl)) rfl
theorem layX8_1 : u_lay RX8 TX8 1 ∈ WU := WU_of (mT1 (List.mem_of_getElem? (i := 208) rfl)) rfl
theorem layX8_2 : u_lay RX8 TX8 2 ∈ WU := WU_of (mT1 (List.mem_of_getElem? (i := 210) rfl)) rfl
theorem layX8_3 : u_lay RX8 TX8 3 ∈ WU := WU_of (mT1 (List.mem_of_getElem? (i := 212) rfl)) rfl
theorem layX8_4 : u_lay RX8 TX8 4 ∈ WU := WU_of (mT1 (List.mem_of_getElem? (i := 214) rfl)) rfl
theorem layX8_5 : u_lay RX8 TX8 5 ∈ WU := WU_of (mT1 (List.mem_of_getElem? (i := 216) rfl)) rfl
theorem layX8_6 : u_lay RX8 TX8 6 ∈ WU := WU_of (mT1 (List.mem_of_getElem? (i := 218) rfl)) rfl
theorem layX8_7 : u_lay RX8 TX8 7 ∈ WU := WU_of (mT1 (List.mem_of_getElem? (i := 220) rfl)) rfl
theorem kc8 : KC 8 RX8 TX8 8 tyX8 := ⟨rfl, (show ∀ w ∈ [u_lay RX8 TX8 0, u_lay RX8 TX8 1, u_lay RX8 TX8 2, u_lay RX8 TX8 3, u_lay RX8 TX8 4, u_lay RX8 TX8 5, u_lay RX8 TX8 6, u_lay RX8 TX8 7], w ∈ WU from List.forall_mem_cons.mpr ⟨layX8_0, List.forall_mem_cons.mpr ⟨layX8_1, List.forall_mem_cons.mpr ⟨layX8_2, List.forall_mem_cons.mpr ⟨layX8_3, List.forall_mem_cons.mpr ⟨layX8_4, List.forall_mem_cons.mpr ⟨layX8_5, List.forall_mem_cons.mpr ⟨layX8_6, List.forall_mem_cons.mpr ⟨layX8_7, fun _ h => absurd h List.not_mem_nil⟩⟩⟩⟩⟩⟩⟩⟩), tyX8_ok, nmX8⟩
theorem layX9_0 : u_lay RX9 TX9 0 ∈ WU := WU_of (mT1 (List.mem_of_getElem? (i := 64) rfl)) rfl
theorem layX9_1 : u_lay RX9 TX9 1 ∈ WU := WU_of (mT1 (List.mem_of_getElem? (i := 66) rfl)) rfl
theorem layX9_2 : u_lay RX9 TX9 2 ∈ WU := WU_of (mT1 (List.mem_of_getElem? (i := 68) rfl)) rfl
theorem layX9_3 : u_lay RX9 TX9 3 ∈ WU := WU_of (mT1 (List.mem_of_getElem? (i := 70) rfl)) rfl
theorem kc9 : KC 9 RX9 TX9 4 tyX9 := ⟨rfl, (show ∀ w ∈ [u_lay RX9 TX9 0, u_lay RX9 TX9 1, u_lay RX9 TX9 2, u_lay RX9 TX9 3], w ∈ WU from List.forall_mem_cons.mpr ⟨layX9_0, List.forall_mem_cons.mpr ⟨layX9_1, List.forall_mem_cons.mpr ⟨layX9_2, List.forall_mem_cons.mpr ⟨layX9_3, fun _ h => absurd h List.not_mem_nil⟩⟩⟩⟩), tyX9_ok, nmX9⟩
theorem layX10_0 : u_lay RX10 TX10 0 ∈ WU := WU_of (mT2 (List.mem_of_getElem? (i := 87) rfl)) rfl
theorem layX10_1 : u_lay RX10 TX10 1 ∈ WU := WU_of (mT2 (List.mem_of_getElem? (i := 89) rfl)) rfl
theorem layX10_2 : u_lay RX10 TX10 2 ∈ WU := WU_of (mT2 (List.mem_of_getElem? (i := 91) rfl)) rfl
theorem layX10_3 : u_lay RX10 TX10 3 ∈ WU := WU_of (mT2 (List.mem_of_getElem? (i := 93) rfl)) rfl
theorem layX10_4 : u_lay RX10 TX10 4 ∈ WU := WU_of (mT2 (List.mem_of_getElem? (i := 95) rfl)) rfl
theorem layX10_5 : u_lay RX10 TX10 5 ∈ WU := WU_of (mT2 (List.mem_of_getElem? (i := 97) rfl)) rfl
theorem layX10_6 : u_lay RX10 TX10 6 ∈ WU := WU_of (mT2 (List.mem_of_getElem? (i := 99) rfl)) rfl
theorem layX10_7 : u_lay RX10 TX10 7 ∈ WU := WU_of (mT2 (List.mem_of_getElem? (i := 101) rfl)) rfl
theorem layX10_8 : u_lay RX10 TX10 8 ∈ WU := WU_of (mT2 (List.mem_of_getElem? (i := 103) rfl)) rfl
theorem kc10 : KC 10 RX10 TX10 9 tyX10 := ⟨rfl, (show ∀ w ∈ [u_lay RX10 TX10 0, u_lay RX10 TX10 1, u_lay RX10 TX10 2, u_lay RX10 TX10 3, u_lay RX10 TX10 4, u_lay RX10 TX10 5, u_lay RX10 TX10 6, u_lay RX10 TX10 7, u_lay RX10 TX10 8], w ∈ WU from List.forall_mem_cons.mpr ⟨layX10_0, List.forall_mem_cons.mpr ⟨layX10_1, List.forall_mem_cons.mpr ⟨layX10_2, List.forall_mem_cons.mpr ⟨layX10_3, List.forall_mem_cons.mpr ⟨layX10_4, List.forall_mem_cons.mpr ⟨layX10_5, List.forall_mem_cons.mpr ⟨layX10_6, List.forall_mem_cons.mpr ⟨layX10_7, List.forall_mem_cons.mpr ⟨layX10_8, fun _ h => absurd h List.not_mem_nil⟩⟩⟩⟩⟩⟩⟩⟩⟩), tyX10_ok, nmX10⟩
theorem layX11_0 : u_lay RX11 TX11 0 ∈ WU := WU_of (mT4 (List.mem_of_getElem? (i := 207) rfl)) rfl
theorem layX11_1 : u_lay RX11 TX11 1 ∈ WU := WU_of (mT4 (List.mem_of_getElem? (i := 209) rfl)) rfl
theorem layX11_2 : u_lay RX11 TX11 2 ∈ WU := WU_of (mT4 (List.mem_of_getElem? (i := 211) rfl)) rfl
theorem layX11_3 : u_lay RX11 TX11 3 ∈ WU := WU_of (mT4 (List.mem_of_getElem? (i := 213) rfl)) rfl
theorem layX11_4 : u_lay RX11 TX11 4 ∈ WU := WU_of (mT4 (List.mem_of_getElem? (i := 215) rfl)) rfl
theorem layX11_5 : u_lay RX11 TX11 5 ∈ WU := WU_of (mT4 (List.mem_of_getElem? (i := 217) rfl)) rfl
theorem layX11_6 : u_lay RX11 TX11 6 ∈ WU := WU_of (mT4 (List.mem_of_getElem? (i := 219) rfl)) rfl
theorem layX11_7 : u_lay RX11 TX11 7 ∈ WU := WU_of (mT4 (List.mem_of_getElem? (i := 221) rfl)) rfl
theorem layX11_8 : u_lay RX11 TX11 8 ∈ WU := WU_of (mT4 (List.mem_of_getElem? (i := 223) rfl)) rfl
theorem layX11_9 : u_lay RX11 TX11 9 ∈ WU := WU_of (mT4 (List.mem_of_getElem? (i := 225) rfl)) rfl
theorem layX11_10 : u_lay RX11 TX11 10 ∈ WU := WU_of (mT4 (List.mem_of_getElem? (i := 227) rfl)) rfl
theorem layX11_11 : u_lay RX11 TX11 11 ∈ WU := WU_of (mT4 (List.mem_of_getElem? (i := 229) rfl)) rfl
theorem layX11_12 : u_lay RX11 TX11 12 ∈ WU := WU_of (mT4 (List.mem_of_getElem? (i := 231) rfl)) rfl
theorem layX11_13 : u_lay RX11 TX11 13 ∈ WU := WU_of (mT4 (List.mem_of_getElem? (i := 233) rfl)) rfl
theorem layX11_14 : u_lay RX11 TX11 14 ∈ WU := WU_of (mT4 (List.mem_of_getElem? (i := 235) rfl)) rfl
theorem layX11_15 : u_lay RX11 TX11 15 ∈ WU := WU_of (mT4 (List.mem_of_getElem? (i := 237) rfl)) rfl
theorem layX11_16 : u_lay RX11 TX11 16 ∈ WU := WU_of (mT4 (List.mem_of_getElem? (i := 239) rfl)) rfl
theorem layX11_17 : u_lay RX11 TX11 17 ∈ WU := WU_of (mT5 (List.mem_of_getElem? (i := 1) rfl)) rfl
theorem layX11_18 : u_lay RX11 TX11 18 ∈ WU := WU_of (mT5 (List.mem_of_getElem? (i := 3) rfl)) rfl
theorem layX11_19 : u_lay RX11 TX11 19 ∈ WU := WU_of (mT5 (List.mem_of_getElem? (i := 5) rfl)) rfl
theorem layX11_20 : u_lay RX11 TX11 20 ∈ WU := WU_of (mT5 (List.mem_of_getElem? (i := 7) rfl)) rfl
theorem layX11_21 : u_lay RX11 TX11 21 ∈ WU := WU_of (mT5 (List.mem_of_getElem? (i := 9) rfl)) rfl
theorem layX11_22 : u_lay RX11 TX11 22 ∈ WU := WU_of (mT5 (List.mem_of_getElem? (i := 11) rfl)) rfl
theorem layX11_23 : u_lay RX11 TX11 23 ∈ WU := WU_of (mT5 (List.mem_of_getElem? (i := 13) rfl)) rfl
theorem layX11_24 : u_lay RX11 TX11 24 ∈ WU := WU_of (mT5 (List.mem_of_getElem? (i := 15) rfl)) rfl
theorem layX11_25 : u_lay RX11 TX11 25 ∈ WU := WU_of (mT5 (List.mem_of_getElem? (i := 17) rfl)) rfl
theorem layX11_26 : u_lay RX11 TX11 26 ∈ WU := WU_of (mT5 (List.mem_of_getElem? (i := 19) rfl)) rfl
theorem layX11_27 : u_lay RX11 TX11 27 ∈ WU := WU_of (mT5 (List.mem_of_getElem? (i := 21) rfl)) rfl
theorem layX11_28 : u_lay RX11 TX11 28 ∈ WU := WU_of (mT5 (List.mem_of_getElem? (i := 23) rfl)) rfl
theorem layX11_29 : u_lay RX11 TX11 29 ∈ WU := WU_of (mT5 (List.mem_of_getElem? (i := 25) rfl)) rfl
theorem layX11_30 : u_lay RX11 TX11 30 ∈ WU := WU_of (mT5 (List.mem_of_getElem? (i := 27) rfl)) rfl
theorem layX11_31 : u_lay RX11 TX11 31 ∈ WU := WU_of (mT5 (List.mem_of_getElem? (i := 29) rfl)) rfl
theorem layX11_32 : u_lay RX11 TX11 32 ∈ WU := WU_of (mT5 (List.mem_of_getElem? (i := 31) rfl)) rfl
theorem layX11_33 : u_lay RX11 TX11 33 ∈ WU := WU_of (mT5 (List.mem_of_getElem? (i := 33) rfl)) rfl
theorem layX11_34 : u_lay RX11 TX11 34 ∈ WU := WU_of (mT5 (List.mem_of_getElem? (i := 35) rfl)) rfl
theorem layX11_35 : u_lay RX11 TX11 35 ∈ WU := WU_of (mT5 (List.mem_of_getElem? (i := 37) rfl)) rfl
theorem layX11_36 : u_lay RX11 TX11 36 ∈ WU := WU_of (mT5 (List.mem_of_getElem? (i := 39) rfl)) rfl
theorem layX11_37 : u_lay RX11 TX11 37 ∈ WU := WU_of (mT5 (List.mem_of_getElem? (i := 41) rfl)) rfl
theorem layX11_38 : u_lay RX11 TX11 38 ∈ WU := WU_of (mT5 (List.mem_of_getElem? (i := 43) rfl)) rfl
theorem layX11_39 : u_lay RX11 TX11 39 ∈ WU := WU_of (mT5 (List.mem_of_getElem? (i := 45) rfl)) rfl
theorem layX11_40 : u_lay RX11 TX11 40 ∈ WU := WU_of (mT5 (List.mem_of_getElem? (i := 47) rfl)) rfl
theorem layX11_41 : u_lay RX11 TX11 41 ∈ WU := WU_of (mT5 (List.mem_of_getElem? (i := 49) rfl)) rfl
theorem layX11_42 : u_lay RX11 TX11 42 ∈ WU := WU_of (mT5 (List.mem_of_getElem? (i := 51) rfl)) rfl
theorem layX11_43 : u_lay RX11 TX11 43 ∈ WU := WU_of (mT5 (List.mem_of_getElem? (i := 53) rfl)) rfl
theorem layX11_44 : u_lay RX11 TX11 44 ∈ WU := WU_of (mT5 (List.mem_of_getElem? (i := 55) rfl)) rfl
theorem layX11_45 : u_lay RX11 TX11 45 ∈ WU := WU_of (mT5 (List.mem_of_getElem? (i := 57) rfl)) rfl
theorem layX11_46 : u_lay RX11 TX11 46 ∈ WU := WU_of (mT5 (List.mem_of_getElem? (i := 59) rfl)) rfl
theorem layX11_47 : u_lay RX11 TX11 47 ∈ WU := WU_of (mT5 (List.mem_of_getElem? (i := 61) rfl)) rfl
theorem layX11_48 : u_lay RX11 TX11 48 ∈ WU := WU_of (mT5 (List.mem_of_getElem? (i := 63) rfl)) rfl
theorem layX11_49 : u_lay RX11 TX11 49 ∈ WU := WU_of (mT5 (List.mem_of_getElem? (i := 65) rfl)) rfl
theorem layX11_50 : u_lay RX11 TX11 50 ∈ WU := WU_of (mT5 (List.mem_of_getElem? (i := 67) rfl)) rfl
theorem layX11_51 : u_lay RX11 TX11 51 ∈ WU := WU_of (mT5 (List.mem_of_getElem? (i := 69) rfl)) rfl
theorem layX11_52 : u_lay RX11 TX11 52 ∈ WU := WU_of (mT5 (List.mem_of_getElem? (i := 71) rfl)) rfl
theorem kc11 : KC 11 RX11 TX11 53 tyX11 := ⟨rfl, (show ∀ w ∈ [u_lay RX11 TX11 0, u_lay RX11 TX11 1, u_lay RX11 TX11 2, u_lay RX11 TX11 3, u_lay RX11 TX11 4, u_lay RX11 TX11 5, u_lay RX11 TX11 6, u_lay RX11 TX11 7, u_lay RX11 TX11 8, u_lay RX11 TX11 9, u_lay RX11 TX11 10, u_lay RX11 TX11 11, u_lay RX11 TX11 12, u_lay RX11 TX11 13, u_lay RX11 TX11 14, u_lay RX11 TX11 15, u_lay RX11 TX11 16, u_lay RX11 TX11 17, u_lay RX11 TX11 18, u_lay RX11 TX11 19, u_lay RX11 TX11 20, u_lay RX11 TX11 21, u_lay RX11 TX11 22, u_lay RX11 TX11 23, u_lay RX11 TX11 24, u_lay RX11 TX11 25, u_lay RX11 TX11 26, u_lay RX11 TX11 27, u_lay RX11 TX11 28, u_lay RX11 TX11 29, u_lay RX11 TX11 30, u_lay RX11 TX11 31, u_lay RX11 TX11 32, u_lay RX11 TX11 33, u_lay RX11 TX11 34, u_lay RX11 TX11 35, u_lay RX11 TX11 36, u_lay RX11 TX11 37, u_lay RX11 TX11 38, u_lay RX11 TX11 39, u_lay RX11 TX11 40, u_lay RX11 TX11 41, u_lay RX11 TX11 42, u_lay RX11 TX11 43, u_lay RX11 TX11 44, u_lay RX11 TX11 45, u_lay RX11 TX11 46, u_lay RX11 TX11 47, u_lay RX11 TX11 48, u_lay RX11 TX11 49, u_lay RX11 TX11 50, u_lay RX11 TX11 51, u_lay RX11 TX11 52], w ∈ WU from List.forall_mem_cons.mpr ⟨layX11_0, List.forall_mem_cons.mpr ⟨layX11_1, List.forall_mem_cons.mpr ⟨layX11_2, List.forall_mem_cons.mpr ⟨layX11_3, List.forall_mem_cons.mpr ⟨layX11_4, List.forall_mem_cons.mpr ⟨layX11_5, List.forall_mem_cons.mpr ⟨layX11_6, List.forall_mem_cons.mpr ⟨layX11_7, List.forall_mem_cons.mpr ⟨layX11_8, List.forall_mem_cons.mpr ⟨layX11_9, List.forall_mem_cons.mpr ⟨layX11_10, List.forall_mem_cons.mpr ⟨layX11_11, List.forall_mem_cons.mpr ⟨layX11_12, List.forall_mem_cons.mpr ⟨layX11_13, List.forall_mem_cons.mpr ⟨layX11_14, List.forall_mem_cons.mpr ⟨layX11_15, List.forall_mem_cons.mpr ⟨layX11_16, List.forall_mem_cons.mpr ⟨layX11_17, List.forall_mem_cons.mpr ⟨layX11_18, List.forall_mem_cons.mpr ⟨layX11_19, List.forall_mem_cons.mpr ⟨layX11_20, List.forall_mem_cons.mpr ⟨layX11_21, List.forall_mem_cons.mpr ⟨layX11_22, List.forall_mem_cons.mpr ⟨layX11_23, List.forall_mem_cons.mpr ⟨layX11_24, List.forall_mem_cons.mpr ⟨layX11_25, List.forall_mem_cons.mpr ⟨layX11_26, List.forall_mem_cons.mpr ⟨layX11_27, List.forall_mem_cons.mpr ⟨layX11_28, List.forall_mem_cons.mpr ⟨layX11_29, List.forall_mem_cons.mpr ⟨layX11_30, List.forall_mem_cons.mpr ⟨layX11_31, List.forall_mem_cons.mpr ⟨layX11_32, List.forall_mem_cons.mpr ⟨layX11_33, List.forall_mem_cons.mpr ⟨layX11_34, List.forall_mem_cons.mpr ⟨layX11_35, List.forall_mem_cons.mpr ⟨layX11_36, List.forall_mem_cons.mpr ⟨layX11_37, List.forall_mem_cons.mpr ⟨layX11_38, List.forall_mem_cons.mpr ⟨layX11_39, List.forall_mem_cons.mpr ⟨layX11_40, List.forall_mem_cons.mpr ⟨layX11_41, List.forall_mem_cons.mpr ⟨layX11_42, List.forall_mem_cons.mpr ⟨layX11_43, List.forall_mem_cons.mpr ⟨layX11_44, List.forall_mem_cons.mpr ⟨layX11_45, List.forall_mem_cons.mpr ⟨layX11_46, List.forall_mem_cons.mpr ⟨layX11_47, List.forall_mem_cons.mpr ⟨layX11_48, List.forall_mem_cons.mpr ⟨layX11_49, List.forall_mem_cons.mpr ⟨layX11_50, List.forall_mem_cons.mpr ⟨layX11_51, List.forall_mem_cons.mpr ⟨layX11_52, fun _ h => absurd h List.not_mem_nil⟩⟩⟩⟩⟩⟩⟩⟩⟩⟩⟩⟩⟩⟩⟩⟩⟩⟩⟩⟩⟩⟩⟩⟩⟩⟩⟩⟩⟩⟩⟩⟩⟩⟩⟩⟩⟩⟩⟩⟩⟩⟩⟩⟩⟩⟩⟩⟩⟩⟩⟩⟩⟩), tyX11_ok, nmX11⟩
theorem f_X5_9 : FL RX5 9 5 0 (.array .int) := ⟨_, _, _, _, kc5, by decide, WU_of (mT1 (List.mem_of_getElem? (i := 38) rfl)) rfl, tyX5_ok 0 (by decide)⟩
theorem f_X5_13 : FL RX5 13 5 1 (.array .int) := ⟨_, _, _, _, kc5, by decide, WU_of (mT1 (List.mem_of_getElem? (i := 39) rfl)) rfl, tyX5_ok 1 (by decide)⟩
theorem f_X5_16 : FL RX5 16 5 2 (.array .int) := ⟨_, _, _, _, kc5, by decide, WU_of (mT1 (List.mem_of_getElem? (i := 40) rfl)) rfl, tyX5_ok 2 (by decide)⟩
theorem f_X5_19 : FL RX5 19 5 3 (.array .int) := ⟨_, _, _, _, kc5, by decide, WU_of (mT1 (List.mem_of_getElem? (i := 41) rfl)) rfl, tyX5_ok 3 (by decide)⟩
theorem fw_X5_22 : FLw RX5 22 5 4 (.int) := ⟨_, _, _, _, kc5, by decide, WU_of (mT1 (List.mem_of_getElem? (i := 42) rfl)) rfl, tyX5_ok 4 (by decide), rfl⟩
theorem f_X5_22 : FL RX5 22 5 4 (.int) := (fw_X5_22).r
theorem f_X9_11 : FL RX9 11 9 0 (.array (.array .int)) := ⟨_, _, _, _, kc9, by decide, WU_of (mT1 (List.mem_of_getElem? (i := 55) rfl)) rfl, tyX9_ok 0 (by decide)⟩
theorem f_X9_19 : FL RX9 19 9 1 (.object "BackHouse$Law") := ⟨_, _, _, _, kc9, by decide, WU_of (mT1 (List.mem_of_getElem? (i := 56) rfl)) rfl, tyX9_ok 1 (by decide)⟩
theorem f_X3_87 : FL RX3 87 9 1 (.object "BackHouse$Law") := ⟨_, _, _, _, kc9, by decide, WU_of (mT1 (List.mem_of_getElem? (i := 57) rfl)) rfl, tyX9_ok 1 (by decide)⟩
theorem fw_X2_9 : FLw RX2 9 9 2 (.int) := ⟨_, _, _, _, kc9, by decide, WU_of (mT1 (List.mem_of_getElem? (i := 58) rfl)) rfl, tyX9_ok 2 (by decide), rfl⟩
theorem f_X2_9 : FL RX2 9 9 2 (.int) := (fw_X2_9).r
theorem fw_X8_63 : FLw RX8 63 9 2 (.int) := ⟨_, _, _, _, kc9, by decide, WU_of (mT1 (List.mem_of_getElem? (i := 59) rfl)) rfl, tyX9_ok 2 (by decide), rfl⟩
theorem f_X8_63 : FL RX8 63 9 2 (.int) := (fw_X8_63).r
theorem fw_X9_34 : FLw RX9 34 9 2 (.int) := ⟨_, _, _, _, kc9, by decide, WU_of (mT1 (List.mem_of_getElem? (i := 60) rfl)) rfl, tyX9_ok 2 (by decide), rfl⟩
theorem f_X9_34 : FL RX9 34 9 2 (.int) := (fw_X9_34).r
theorem fw_X10_177 : FLw RX10 177 9 2 (.int) := ⟨_, _, _, _, kc9, by decide, WU_of (mT1 (List.mem_of_getElem? (i := 61) rfl)) rfl, tyX9_ok 2 (by decide), rfl⟩
theorem f_X10_177 : FL RX10 177 9 2 (.int) := (fw_X10_177).r
theorem fw_X9_23 : FLw RX9 23 9 3 (.int) := ⟨_, _, _, _, kc9, by decide, WU_of (mT1 (List.mem_of_getElem? (i := 62) rfl)) rfl, tyX9_ok 3 (by decide), rfl⟩
theorem f_X9_23 : FL RX9 23 9 3 (.int) := (fw_X9_23).r
theorem fw_X8_46 : FLw RX8 46 9 3 (.int) := ⟨_, _, _, _, kc9, by decide, WU_of (mT1 (List.mem_of_getElem? (i := 63) rfl)) rfl, tyX9_ok 3 (by decide), rfl⟩
theorem f_X8_46 : FL RX8 46 9 3 (.int) := (fw_X8_46).r
theorem f_X1_9 : FL RX1 9 1 0 (.array .int) := ⟨_, _, _, _, kc1, by decide, WU_of (mT1 (List.mem_of_getElem? (i := 79) rfl)) rfl, tyX1_ok 0 (by decide)⟩
theorem f_X1_13 : FL RX1 13 1 1 (.array .int) := ⟨_, _, _, _, kc1, by decide, WU_of (mT1 (List.mem_of_getElem? (i := 80) rfl)) rfl, tyX1_ok 1 (by decide)⟩
theorem f_X1_16 : FL RX1 16 1 2 (.array .int) := ⟨_, _, _, _, kc1, by decide, WU_of (mT1 (List.mem_of_getElem? (i := 81) rfl)) rfl, tyX1_ok 2 (by decide)⟩
theorem f_X1_19 : FL RX1 19 1 3 (.array .int) := ⟨_, _, _, _, kc1, by decide, WU_of (mT1 (List.mem_of_getElem? (i := 82) rfl)) rfl, tyX1_ok 3 (by decide)⟩
theorem fw_X1_22 : FLw RX1 22 1 4 (.int) := ⟨_, _, _, _, kc1, by decide, WU_of (mT1 (List.mem_of_getElem? (i := 83) rfl)) rfl, tyX1_ok 4 (by decide), rfl⟩
theorem f_X1_22 : FL RX1 22 1 4 (.int) := (fw_X1_22).r
theorem fw_X10_266 : FLw RX10 266 1 4 (.int) := ⟨_, _, _, _, kc1, by decide, WU_of (mT1 (List.mem_of_getElem? (i := 84) rfl)) rfl, tyX1_ok 4 (by decide), rfl⟩
theorem f_X10_266 : FL RX10 266 1 4 (.int) := (fw_X10_266).r
theorem fw_X1_29 : FLw RX1 29 1 5 (.int) := ⟨_, _, _, _, kc1, by decide, WU_of (mT1 (List.mem_of_getElem? (i := 85) rfl)) rfl, tyX1_ok 5 (by decide), rfl⟩
theorem f_X1_29 : FL RX1 29 1 5 (.int) := (fw_X1_29).r
theorem fw_X10_272 : FLw RX10 272 1 5 (.int) := ⟨_, _, _, _, kc1, by decide, WU_of (mT1 (List.mem_of_getElem? (i := 86) rfl)) rfl, tyX1_ok 5 (by decide), rfl⟩
theorem f_X10_272 : FL RX10 272 1 5 (.int) := (fw_X10_272).r
theorem f_X6_11 : FL RX6 11 6 0 (.array .int) := ⟨_, _, _, _, kc6, by decide, WU_of (mT1 (List.mem_of_getElem? (i := 106) rfl)) rfl, tyX6_ok 0 (by decide)⟩
theorem f_X6_17 : FL RX6 17 6 1 (.array .int) := ⟨_, _, _, _, kc6, by decide, WU_of (mT1 (List.mem_of_getElem? (i := 107) rfl)) rfl, tyX6_ok 1 (by decide)⟩
theorem f_X9_41 : FL RX9 41 6 1 (.array .int) := ⟨_, _, _, _, kc6, by decide, WU_of (mT1 (List.mem_of_getElem? (i := 108) rfl)) rfl, tyX6_ok 1 (by decide)⟩
theorem f_X6_20 : FL RX6 20 6 2 (.array .int) := ⟨_, _, _, _, kc6, by decide, WU_of (mT1 (List.mem_of_getElem? (i := 109) rfl)) rfl, tyX6_ok 2 (by decide)⟩
theorem f_X9_46 : FL RX9 46 6 2 (.array .int) := ⟨_, _, _, _, kc6, by decide, WU_of (mT1 (List.mem_of_getElem? (i := 110) rfl)) rfl, tyX6_ok 2 (by decide)⟩
theorem fw_X6_23 : FLw RX6 23 6 3 (.int) := ⟨_, _, _, _, kc6, by decide, WU_of (mT1 (List.mem_of_getElem? (i := 111) rfl)) rfl, tyX6_ok 3 (by decide), rfl⟩
theorem f_X6_23 : FL RX6 23 6 3 (.int) := (fw_X6_23).r
theorem fw_X10_327 : FLw RX10 327 6 3 (.int) := ⟨_, _, _, _, kc6, by decide, WU_of (mT1 (List.mem_of_getElem? (i := 112) rfl)) rfl, tyX6_ok 3 (by decide), rfl⟩
theorem f_X10_327 : FL RX10 327 6 3 (.int) := (fw_X10_327).r
theorem fw_X6_33 : FLw RX6 33 6 4 (.int) := ⟨_, _, _, _, kc6, by decide, WU_of (mT1 (List.mem_of_getElem? (i := 113) rfl)) rfl, tyX6_ok 4 (by decide), rfl⟩
theorem f_X6_33 : FL RX6 33 6 4 (.int) := (fw_X6_33).r
theorem fw_X9_48 : FLw RX9 48 6 4 (.int) := ⟨_, _, _, _, kc6, by decide, WU_of (mT1 (List.mem_of_getElem? (i := 114) rfl)) rfl, tyX6_ok 4 (by decide), rfl⟩
theorem f_X9_48 : FL RX9 48 6 4 (.int) := (fw_X9_48).r
theorem fw_X6_27 : FLw RX6 27 6 5 (.int) := ⟨_, _, _, _, kc6, by decide, WU_of (mT1 (List.mem_of_getElem? (i := 115) rfl)) rfl, tyX6_ok 5 (by decide), rfl⟩
theorem f_X6_27 : FL RX6 27 6 5 (.int) := (fw_X6_27).r
theorem fw_X6_30 : FLw RX6 30 6 6 (.int) := ⟨_, _, _, _, kc6, by decide, WU_of (mT1 (List.mem_of_getElem? (i := 116) rfl)) rfl, tyX6_ok 6 (by decide), rfl⟩
theorem f_X6_30 : FL RX6 30 6 6 (.int) := (fw_X6_30).r
theorem f_X3_21 : FL RX3 21 3 0 (.object "BackHouse$World") := ⟨_, _, _, _, kc3, by decide, WU_of (mT1 (List.mem_of_getElem? (i := 138) rfl)) rfl, tyX3_ok 0 (by decide)⟩
theorem f_X3_9 : FL RX3 9 3 1 (.array .int) := ⟨_, _, _, _, kc3, by decide, WU_of (mT1 (List.mem_of_getElem? (i := 139) rfl)) rfl, tyX3_ok 1 (by decide)⟩
theorem f_X10_148 : FL RX10 148 3 1 (.array .int) := ⟨_, _, _, _, kc3, by decide, WU_of (mT1 (List.mem_of_getElem? (i := 140) rfl)) rfl, tyX3_ok 1 (by decide)⟩
theorem f_X3_15 : FL RX3 15 3 2 (.array .int) := ⟨_, _, _, _, kc3, by decide, WU_of (mT1 (List.mem_of_getElem? (i := 141) rfl)) rfl, tyX3_ok 2 (by decide)⟩
theorem f_X10_152 : FL RX10 152 3 2 (.array .int) := ⟨_, _, _, _, kc3, by decide, WU_of (mT1 (List.mem_of_getElem? (i := 142) rfl)) rfl, tyX3_ok 2 (by decide)⟩
theorem f_X3_18 : FL RX3 18 3 3 (.array .int) := ⟨_, _, _, _, kc3, by decide, WU_of (mT1 (List.mem_of_getElem? (i := 143) rfl)) rfl, tyX3_ok 3 (by decide)⟩
theorem f_X10_155 : FL RX10 155 3 3 (.array .int) := ⟨_, _, _, _, kc3, by decide, WU_of (mT1 (List.mem_of_getElem? (i := 144) rfl)) rfl, tyX3_ok 3 (by decide)⟩
theorem fw_X3_32 : FLw RX3 32 3 4 (.boolean) := ⟨_, _, _, _, kc3, by decide, WU_of (mT1 (List.mem_of_getElem? (i := 145) rfl)) rfl, tyX3_ok 4 (by decide), rfl⟩
theorem f_X3_32 : FL RX3 32 3 4 (.boolean) := (fw_X3_32).r
theorem fw_X10_235 : FLw RX10 235 3 4 (.boolean) := ⟨_, _, _, _, kc3, by decide, WU_of (mT1 (List.mem_of_getElem? (i := 146) rfl)) rfl, tyX3_ok 4 (by decide), rfl⟩
theorem f_X10_235 : FL RX10 235 3 4 (.boolean) := (fw_X10_235).r
theorem fw_X3_36 : FLw RX3 36 3 5 (.int) := ⟨_, _, _, _, kc3, by decide, WU_of (mT1 (List.mem_of_getElem? (i := 147) rfl)) rfl, tyX3_ok 5 (by decide), rfl⟩
theorem f_X3_36 : FL RX3 36 3 5 (.int) := (fw_X3_36).r
theorem fw_X10_245 : FLw RX10 245 3 5 (.int) := ⟨_, _, _, _, kc3, by decide, WU_of (mT1 (List.mem_of_getElem? (i := 148) rfl)) rfl, tyX3_ok 5 (by decide), rfl⟩
theorem f_X10_245 : FL RX10 245 3 5 (.int) := (fw_X10_245).r
theorem fw_X3_40 : FLw RX3 40 3 6 (.int) := ⟨_, _, _, _, kc3, by decide, WU_of (mT1 (List.mem_of_getElem? (i := 149) rfl)) rfl, tyX3_ok 6 (by decide), rfl⟩
theorem f_X3_40 : FL RX3 40 3 6 (.int) := (fw_X3_40).r
theorem fw_X3_43 : FLw RX3 43 3 7 (.int) := ⟨_, _, _, _, kc3, by decide, WU_of (mT1 (List.mem_of_getElem? (i := 150) rfl)) rfl, tyX3_ok 7 (by decide), rfl⟩
theorem f_X3_43 : FL RX3 43 3 7 (.int) := (fw_X3_43).r
theorem fw_X8_59 : FLw RX8 59 3 8 (.int) := ⟨_, _, _, _, kc3, by decide, WU_of (mT1 (List.mem_of_getElem? (i := 151) rfl)) rfl, tyX3_ok 8 (by decide), rfl⟩
theorem f_X8_59 : FL RX8 59 3 8 (.int) := (fw_X8_59).r
theorem fw_X3_46 : FLw RX3 46 3 8 (.int) := ⟨_, _, _, _, kc3, by decide, WU_of (mT1 (List.mem_of_getElem? (i := 152) rfl)) rfl, tyX3_ok 8 (by decide), rfl⟩
theorem f_X3_46 : FL RX3 46 3 8 (.int) := (fw_X3_46).r
theorem fw_X10_142 : FLw RX10 142 3 8 (.int) := ⟨_, _, _, _, kc3, by decide, WU_of (mT1 (List.mem_of_getElem? (i := 153) rfl)) rfl, tyX3_ok 8 (by decide), rfl⟩
theorem f_X10_142 : FL RX10 142 3 8 (.int) := (fw_X10_142).r
theorem fw_X3_49 : FLw RX3 49 3 9 (.int) := ⟨_, _, _, _, kc3, by decide, WU_of (mT1 (List.mem_of_getElem? (i := 154) rfl)) rfl, tyX3_ok 9 (by decide), rfl⟩
theorem f_X3_49 : FL RX3 49 3 9 (.int) := (fw_X3_49).r
theorem fw_X10_133 : FLw RX10 133 3 9 (.int) := ⟨_, _, _, _, kc3, by decide, WU_of (mT1 (List.mem_of_getElem? (i := 155) rfl)) rfl, tyX3_ok 9 (by decide), rfl⟩
theorem f_X10_133 : FL RX10 133 3 9 (.int) := (fw_X10_133).r
theorem fw_X8_61 : FLw RX8 61 3 10 (.int) := ⟨_, _, _, _, kc3, by decide, WU_of (mT1 (List.mem_of_getElem? (i := 156) rfl)) rfl, tyX3_ok 10 (by decide), rfl⟩
theorem f_X8_61 : FL RX8 61 3 10 (.int) := (fw_X8_61).r
theorem fw_X3_52 : FLw RX3 52 3 10 (.int) := ⟨_, _, _, _, kc3, by decide, WU_of (mT1 (List.mem_of_getElem? (i := 157) rfl)) rfl, tyX3_ok 10 (by decide), rfl⟩
theorem f_X3_52 : FL RX3 52 3 10 (.int) := (fw_X3_52).r
theorem fw_X10_136 : FLw RX10 136 3 10 (.int) := ⟨_, _, _, _, kc3, by decide, WU_of (mT1 (List.mem_of_getElem? (i := 158) rfl)) rfl, tyX3_ok 10 (by decide), rfl⟩
theorem f_X10_136 : FL RX10 136 3 10 (.int) := (fw_X10_136).r
theorem fw_X3_55 : FLw RX3 55 3 11 (.int) := ⟨_, _, _, _, kc3, by decide, WU_of (mT1 (List.mem_of_getElem? (i := 159) rfl)) rfl, tyX3_ok 11 (by decide), rfl⟩
theorem f_X3_55 : FL RX3 55 3 11 (.int) := (fw_X3_55).r
theorem fw_X10_139 : FLw RX10 139 3 11 (.int) := ⟨_, _, _, _, kc3, by decide, WU_of (mT1 (List.mem_of_getElem? (i := 160) rfl)) rfl, tyX3_ok 11 (by decide), rfl⟩
theorem f_X10_139 : FL RX10 139 3 11 (.int) := (fw_X10_139).r
theorem fw_X3_58 : FLw RX3 58 3 12 (.int) := ⟨_, _, _, _, kc3, by decide, WU_of (mT1 (List.mem_of_getElem? (i := 161) rfl)) rfl, tyX3_ok 12 (by decide), rfl⟩
theorem f_X3_58 : FL RX3 58 3 12 (.int) := (fw_X3_58).r
theorem fw_X10_198 : FLw RX10 198 3 12 (.int) := ⟨_, _, _, _, kc3, by decide, WU_of (mT1 (List.mem_of_getElem? (i := 162) rfl)) rfl, tyX3_ok 12 (by decide), rfl⟩
theorem f_X10_198 : FL RX10 198 3 12 (.int) := (fw_X10_198).r
theorem f_X8_29 : FL RX8 29 8 0 (.object "BackHouse$World") := ⟨_, _, _, _, kc8, by decide, WU_of (mT1 (List.mem_of_getElem? (i := 198) rfl)) rfl, tyX8_ok 0 (by decide)⟩
theorem f_X8_38 : FL RX8 38 8 1 (.object "BackHouse$Drive") := ⟨_, _, _, _, kc8, by decide, WU_of (mT1 (List.mem_of_getElem? (i := 199) rfl)) rfl, tyX8_ok 1 (by decide)⟩
theorem f_X8_11 : FL RX8 11 8 2 (.array .int) := ⟨_, _, _, _, kc8, by decide, WU_of (mT1 (List.mem_of_getElem? (i := 200) rfl)) rfl, tyX8_ok 2 (by decide)⟩
theorem f_X8_15 : FL RX8 15 8 3 (.array .int) := ⟨_, _, _, _, kc8, by decide, WU_of (mT1 (List.mem_of_getElem? (i := 201) rfl)) rfl, tyX8_ok 3 (by decide)⟩
theorem f_X8_18 : FL RX8 18 8 4 (.array .int) := ⟨_, _, _, _, kc8, by decide, WU_of (mT1 (List.mem_of_getElem? (i := 202) rfl)) rfl, tyX8_ok 4 (by decide)⟩
theorem f_X8_21 : FL RX8 21 8 5 (.array .long) := ⟨_, _, _, _, kc8, by decide, WU_of (mT1 (List.mem_of_getElem? (i := 203) rfl)) rfl, tyX8_ok 5 (by decide)⟩
theorem fw_X8_25 : FLw RX8 25 8 6 (.long) := ⟨_, _, _, _, kc8, by decide, WU_of (mT1 (List.mem_of_getElem? (i := 204) rfl)) rfl, tyX8_ok 6 (by decide), rfl⟩
theorem f_X8_25 : FL RX8 25 8 6 (.long) := (fw_X8_25).r
theorem fw_X8_42 : FLw RX8 42 8 7 (.int) := ⟨_, _, _, _, kc8, by decide, WU_of (mT1 (List.mem_of_getElem? (i := 205) rfl)) rfl, tyX8_ok 7 (by decide), rfl⟩
theorem f_X8_42 : FL RX8 42 8 7 (.int) := (fw_X8_42).r
theorem fw_X2_15 : FLw RX2 15 2 0 (.int) := ⟨_, _, _, _, kc2, by decide, WU_of (mT1 (List.mem_of_getElem? (i := 230) rfl)) rfl, tyX2_ok 0 (by decide), rfl⟩
theorem f_X2_15 : FL RX2 15 2 0 (.int) := (fw_X2_15).r
theorem fw_X10_225 : FLw RX10 225 2 0 (.int) := ⟨_, _, _, _, kc2, by decide, WU_of (mT1 (List.mem_of_getElem? (i := 231) rfl)) rfl, tyX2_ok 0 (by decide), rfl⟩
theorem f_X10_225 : FL RX10 225 2 0 (.int) := (fw_X10_225).r
theorem f_X4_12 : FL RX4 12 4 0 (.object "BackHouse$Drive") := ⟨_, _, _, _, kc4, by decide, WU_of (mT2 (List.mem_of_getElem? (i := 3) rfl)) rfl, tyX4_ok 0 (by decide)⟩
theorem f_X10_232 : FL RX10 232 4 0 (.object "BackHouse$Drive") := ⟨_, _, _, _, kc4, by decide, WU_of (mT2 (List.mem_of_getElem? (i := 4) rfl)) rfl, tyX4_ok 0 (by decide)⟩
theorem f_X4_18 : FL RX4 18 4 1 (.object "BackHouse$Drive") := ⟨_, _, _, _, kc4, by decide, WU_of (mT2 (List.mem_of_getElem? (i := 5) rfl)) rfl, tyX4_ok 1 (by decide)⟩
theorem fw_X4_25 : FLw RX4 25 4 2 (.int) := ⟨_, _, _, _, kc4, by decide, WU_of (mT2 (List.mem_of_getElem? (i := 6) rfl)) rfl, tyX4_ok 2 (by decide), rfl⟩
theorem f_X4_25 : FL RX4 25 4 2 (.int) := (fw_X4_25).r
theorem fw_X10_248 : FLw RX10 248 4 2 (.int) := ⟨_, _, _, _, kc4, by decide, WU_of (mT2 (List.mem_of_getElem? (i := 7) rfl)) rfl, tyX4_ok 2 (by decide), rfl⟩
theorem f_X10_248 : FL RX10 248 4 2 (.int) := (fw_X10_248).r
theorem fw_X4_32 : FLw RX4 32 4 3 (.int) := ⟨_, _, _, _, kc4, by decide, WU_of (mT2 (List.mem_of_getElem? (i := 8) rfl)) rfl, tyX4_ok 3 (by decide), rfl⟩
theorem f_X4_32 : FL RX4 32 4 3 (.int) := (fw_X4_32).r
theorem fw_X10_251 : FLw RX10 251 4 3 (.int) := ⟨_, _, _, _, kc4, by decide, WU_of (mT2 (List.mem_of_getElem? (i := 9) rfl)) rfl, tyX4_ok 3 (by decide), rfl⟩
theorem f_X10_251 : FL RX10 251 4 3 (.int) := (fw_X10_251).r
theorem fw_X4_29 : FLw RX4 29 4 4 (.int) := ⟨_, _, _, _, kc4, by decide, WU_of (mT2 (List.mem_of_getElem? (i := 10) rfl)) rfl, tyX4_ok 4 (by decide), rfl⟩
theorem f_X4_29 : FL RX4 29 4 4 (.int) := (fw_X4_29).r
theorem fw_X4_35 : FLw RX4 35 4 5 (.int) := ⟨_, _, _, _, kc4, by decide, WU_of (mT2 (List.mem_of_getElem? (i := 11) rfl)) rfl, tyX4_ok 5 (by decide), rfl⟩
theorem f_X4_35 : FL RX4 35 4 5 (.int) := (fw_X4_35).r
theorem fw_X4_38 : FLw RX4 38 4 6 (.boolean) := ⟨_, _, _, _, kc4, by decide, WU_of (mT2 (List.mem_of_getElem? (i := 12) rfl)) rfl, tyX4_ok 6 (by decide), rfl⟩
theorem f_X4_38 : FL RX4 38 4 6 (.boolean) := (fw_X4_38).r
theorem fw_X10_256 : FLw RX10 256 4 6 (.boolean) := ⟨_, _, _, _, kc4, by decide, WU_of (mT2 (List.mem_of_getElem? (i := 13) rfl)) rfl, tyX4_ok 6 (by decide), rfl⟩
theorem f_X10_256 : FL RX10 256 4 6 (.boolean) := (fw_X10_256).r
theorem f_X0_11 : FL RX0 11 0 0 (.array .int) := ⟨_, _, _, _, kc0, by decide, WU_of (mT2 (List.mem_of_getElem? (i := 35) rfl)) rfl, tyX0_ok 0 (by decide)⟩
theorem f_X0_15 : FL RX0 15 0 1 (.array .int) := ⟨_, _, _, _, kc0, by decide, WU_of (mT2 (List.mem_of_getElem? (i := 36) rfl)) rfl, tyX0_ok 1 (by decide)⟩
theorem f_X10_289 : FL RX10 289 0 1 (.array .int) := ⟨_, _, _, _, kc0, by decide, WU_of (mT2 (List.mem_of_getElem? (i := 37) rfl)) rfl, tyX0_ok 1 (by decide)⟩
theorem fw_X0_18 : FLw RX0 18 0 2 (.int) := ⟨_, _, _, _, kc0, by decide, WU_of (mT2 (List.mem_of_getElem? (i := 38) rfl)) rfl, tyX0_ok 2 (by decide), rfl⟩
theorem f_X0_18 : FL RX0 18 0 2 (.int) := (fw_X0_18).r
theorem fw_X10_330 : FLw RX10 330 0 2 (.int) := ⟨_, _, _, _, kc0, by decide, WU_of (mT2 (List.mem_of_getElem? (i := 39) rfl)) rfl, tyX0_ok 2 (by decide), rfl⟩
theorem f_X10_330 : FL RX10 330 0 2 (.int) := (fw_X10_330).r
theorem fw_X0_40 : FLw RX0 40 0 3 (.int) := ⟨_, _, _, _, kc0, by decide, WU_of (mT2 (List.mem_of_getElem? (i := 40) rfl)) rfl, tyX0_ok 3 (by decide), rfl⟩
theorem f_X0_40 : FL RX0 40 0 3 (.int) := (fw_X0_40).r
theorem fw_X10_277 : FLw RX10 277 0 3 (.int) := ⟨_, _, _, _, kc0, by decide, WU_of (mT2 (List.mem_of_getElem? (i := 41) rfl)) rfl, tyX0_ok 3 (by decide), rfl⟩
theorem f_X10_277 : FL RX10 277 0 3 (.int) := (fw_X10_277).r
theorem f_X7_11 : FL RX7 11 7 0 (.array .long) := ⟨_, _, _, _, kc7, by decide, WU_of (mT2 (List.mem_of_getElem? (i := 58) rfl)) rfl, tyX7_ok 0 (by decide)⟩
theorem f_X10_314 : FL RX10 314 7 0 (.array .long) := ⟨_, _, _, _, kc7, by decide, WU_of (mT2 (List.mem_of_getElem? (i := 59) rfl)) rfl, tyX7_ok 0 (by decide)⟩
theorem fw_X7_15 : FLw RX7 15 7 1 (.int) := ⟨_, _, _, _, kc7, by decide, WU_of (mT2 (List.mem_of_getElem? (i := 60) rfl)) rfl, tyX7_ok 1 (by decide), rfl⟩
theorem f_X7_15 : FL RX7 15 7 1 (.int) := (fw_X7_15).r
theorem fw_X10_86 : FLw RX10 86 7 1 (.int) := ⟨_, _, _, _, kc7, by decide, WU_of (mT2 (List.mem_of_getElem? (i := 61) rfl)) rfl, tyX7_ok 1 (by decide), rfl⟩
theorem f_X10_86 : FL RX10 86 7 1 (.int) := (fw_X10_86).r
theorem fw_X10_292 : FLw RX10 292 7 2 (.int) := ⟨_, _, _, _, kc7, by decide, WU_of (mT2 (List.mem_of_getElem? (i := 62) rfl)) rfl, tyX7_ok 2 (by decide), rfl⟩
theorem f_X10_292 : FL RX10 292 7 2 (.int) := (fw_X10_292).r
theorem fw_X7_19 : FLw RX7 19 7 3 (.int) := ⟨_, _, _, _, kc7, by decide, WU_of (mT2 (List.mem_of_getElem? (i := 63) rfl)) rfl, tyX7_ok 3 (by decide), rfl⟩
theorem f_X7_19 : FL RX7 19 7 3 (.int) := (fw_X7_19).r
theorem fw_X10_308 : FLw RX10 308 7 3 (.int) := ⟨_, _, _, _, kc7, by decide, WU_of (mT2 (List.mem_of_getElem? (i := 64) rfl)) rfl, tyX7_ok 3 (by decide), rfl⟩
theorem f_X10_308 : FL RX10 308 7 3 (.int) := (fw_X10_308).r
theorem fw_X7_22 : FLw RX7 22 7 4 (.int) := ⟨_, _, _, _, kc7, by decide, WU_of (mT2 (List.mem_of_getElem? (i := 65) rfl)) rfl, tyX7_ok 4 (by decide), rfl⟩
theorem f_X7_22 : FL RX7 22 7 4 (.int) := (fw_X7_22).r
theorem fw_X10_333 : FLw RX10 333 7 4 (.int) := ⟨_, _, _, _, kc7, by decide, WU_of (mT2 (List.mem_of_getElem? (i := 66) rfl)) rfl, tyX7_ok 4 (by decide), rfl⟩
theorem f_X10_333 : FL RX10 333 7 4 (.int) := (fw_X10_333).r
theorem f_X10_10 : FL RX10 10 10 0 (.object "BackHouse$World") := ⟨_, _, _, _, kc10, by decide, WU_of (mT2 (List.mem_of_getElem? (i := 78) rfl)) rfl, tyX10_ok 0 (by decide)⟩
theorem f_X10_19 : FL RX10 19 10 1 (.object "BackHouse$Changes") := ⟨_, _, _, _, kc10, by decide, WU_of (mT2 (List.mem_of_getElem? (i := 79) rfl)) rfl, tyX10_ok 1 (by decide)⟩
theorem f_X10_26 : FL RX10 26 10 2 (.object "BackHouse$Reader") := ⟨_, _, _, _, kc10, by decide, WU_of (mT2 (List.mem_of_getElem? (i := 80) rfl)) rfl, tyX10_ok 2 (by decide)⟩
theorem f_X10_35 : FL RX10 35 10 3 (.object "BackHouse$Drive") := ⟨_, _, _, _, kc10, by decide, WU_of (mT2 (List.mem_of_getElem? (i := 81) rfl)) rfl, tyX10_ok 3 (by decide)⟩
theorem f_X10_42 : FL RX10 42 10 4 (.object "BackHouse$Table") := ⟨_, _, _, _, kc10, by decide, WU_of (mT2 (List.mem_of_getElem? (i := 82) rfl)) rfl, tyX10_ok 4 (by decide)⟩
theorem f_X10_49 : FL RX10 49 10 5 (.object "BackHouse$Draw") := ⟨_, _, _, _, kc10, by decide, WU_of (mT2 (List.mem_of_getElem? (i := 83) rfl)) rfl, tyX10_ok 5 (by decide)⟩
theorem f_X10_56 : FL RX10 56 10 6 (.object "BackHouse$Journey") := ⟨_, _, _, _, kc10, by decide, WU_of (mT2 (List.mem_of_getElem? (i := 84) rfl)) rfl, tyX10_ok 6 (by decide)⟩
theorem f_X10_63 : FL RX10 63 10 7 (.object "BackHouse$Acts") := ⟨_, _, _, _, kc10, by decide, WU_of (mT2 (List.mem_of_getElem? (i := 85) rfl)) rfl, tyX10_ok 7 (by decide)⟩
theorem f_X10_69 : FL RX10 69 10 8 (.array (.object "BackHouse$Shelf")) := ⟨_, _, _, _, kc10, by decide, WU_of (mT2 (List.mem_of_getElem? (i := 86) rfl)) rfl, tyX10_ok 8 (by decide)⟩
theorem mv_L_13 : MV RL 13 10 yX10_thing cX10_thing 5 ((Option.some Jvm.ClassFile.FieldType.int)) 2 := ⟨⟨WU_of (mT2 (List.mem_of_getElem? (i := 106) rfl)) rfl, WU_of (mT2 (List.mem_of_getElem? (i := 109) rfl)) rfl, WU_of (mT1 (List.mem_of_getElem? (i := 1) rfl)) rfl, ⟨by decide +kernel, by decide +kernel, by decide +kernel⟩, by decide⟩, WU_of (mT2 (List.mem_of_getElem? (i := 107) rfl)) rfl, WU_of (mT2 (List.mem_of_getElem? (i := 108) rfl)) rfl, _, _, rfl⟩
theorem ms_X10_74 : MS RX10 74 yX9_may cX9_may 2 ((Option.some Jvm.ClassFile.FieldType.boolean)) 2 := ⟨⟨WU_of (mT2 (List.mem_of_getElem? (i := 110) rfl)) rfl, WU_of (mT2 (List.mem_of_getElem? (i := 112) rfl)) rfl, WU_of (mT1 (List.mem_of_getElem? (i := 2) rfl)) rfl, ⟨by decide +kernel, by decide +kernel, by decide +kernel⟩, by decide⟩, WU_of (mT2 (List.mem_of_getElem? (i := 111) rfl)) rfl⟩
theorem st_X9_27 : ST RX9 27 "BackHouse$World" "LEAST" := WU_of (mT2 (List.mem_of_getElem? (i := 113) rfl)) rfl
theorem st_X9_31 : ST RX9 31 "BackHouse$World" "MOST" := WU_of (mT2 (List.mem_of_getElem? (i := 115) rfl)) rfl
theorem mv_X10_78 : MV RX10 78 9 yX9_add cX9_add 6 ((Option.some Jvm.ClassFile.FieldType.int)) 4 := ⟨⟨WU_of (mT2 (List.mem_of_getElem? (i := 117) rfl)) rfl, WU_of (mT2 (List.mem_of_getElem? (i := 120) rfl)) rfl, WU_of (mT1 (List.mem_of_getElem? (i := 2) rfl)) rfl, ⟨by decide +kernel, by decide +kernel, by decide +kernel⟩, by decide⟩, WU_of (mT2 (List.mem_of_getElem? (i := 118) rfl)) rfl, WU_of (mT2 (List.mem_of_getElem? (i := 119) rfl)) rfl, _, _, rfl⟩
theorem mv_X9_37 : MV RX9 37 9 yX9_become cX9_become 4 ((Option.none : Option Jvm.ClassFile.FieldType)) 3 := ⟨⟨WU_of (mT2 (List.mem_of_getElem? (i := 121) rfl)) rfl, WU_of (mT2 (List.mem_of_getElem? (i := 124) rfl)) rfl, WU_of (mT1 (List.mem_of_getElem? (i := 2) rfl)) rfl, ⟨by decide +kernel, by decide +kernel, by decide +kernel⟩, by decide⟩, WU_of (mT2 (List.mem_of_getElem? (i := 122) rfl)) rfl, WU_of (mT2 (List.mem_of_getElem? (i := 123) rfl)) rfl, _, _, rfl⟩
theorem mv_L_18 : MV RL 18 10 yX10_things cX10_things 7 ((Option.some Jvm.ClassFile.FieldType.int)) 3 := ⟨⟨WU_of (mT2 (List.mem_of_getElem? (i := 125) rfl)) rfl, WU_of (mT2 (List.mem_of_getElem? (i := 128) rfl)) rfl, WU_of (mT1 (List.mem_of_getElem? (i := 1) rfl)) rfl, ⟨by decide +kernel, by decide +kernel, by decide +kernel⟩, by decide⟩, WU_of (mT2 (List.mem_of_getElem? (i := 126) rfl)) rfl, WU_of (mT2 (List.mem_of_getElem? (i := 127) rfl)) rfl, _, _, rfl⟩
theorem mv_X10_82 : MV RX10 82 10 yX10_shelfAt cX10_shelfAt 2 ((Option.some (Jvm.ClassFile.FieldType.object "BackHouse$Shelf"))) 1 := ⟨⟨WU_of (mT2 (List.mem_of_getElem? (i := 129) rfl)) rfl, WU_of (mT2 (List.mem_of_getElem? (i := 132) rfl)) rfl, WU_of (mT1 (List.mem_of_getElem? (i := 1) rfl)) rfl, ⟨by decide +kernel, by decide +kernel, by decide +kernel⟩, by decide⟩, WU_of (mT2 (List.mem_of_getElem? (i := 131) rfl)) rfl, WU_of (mP1 (List.mem_of_getElem? (i := 0) rfl)) rfl, _, _, rfl⟩
theorem mv_X10_90 : MV RX10 90 7 yX7_holdsBytes cX7_holdsBytes 1 ((Option.some Jvm.ClassFile.FieldType.boolean)) 0 := ⟨⟨WU_of (mT2 (List.mem_of_getElem? (i := 133) rfl)) rfl, WU_of (mT2 (List.mem_of_getElem? (i := 136) rfl)) rfl, WU_of (mT1 (List.mem_of_getElem? (i := 11) rfl)) rfl, ⟨by decide +kernel, by decide +kernel, by decide +kernel⟩, by decide⟩, WU_of (mT2 (List.mem_of_getElem? (i := 134) rfl)) rfl, WU_of (mT2 (List.mem_of_getElem? (i := 135) rfl)) rfl, _, _, rfl⟩
theorem mv_X10_94 : MV RX10 94 10 yX10_thingCame cX10_thingCame 7 ((Option.some Jvm.ClassFile.FieldType.boolean)) 2 := ⟨⟨WU_of (mT2 (List.mem_of_getElem? (i := 137) rfl)) rfl, WU_of (mT2 (List.mem_of_getElem? (i := 140) rfl)) rfl, WU_of (mT1 (List.mem_of_getElem? (i := 1) rfl)) rfl, ⟨by decide +kernel, by decide +kernel, by decide +kernel⟩, by decide⟩, WU_of (mT2 (List.mem_of_getElem? (i := 139) rfl)) rfl, WU_of (mP1 (List.mem_of_getElem? (i := 1) rfl)) rfl, _, _, rfl⟩
theorem mv_X10_311 : MV RX10 311 7 yX7_hasPlaces cX7_hasPlaces 3 ((Option.some Jvm.ClassFile.FieldType.boolean)) 2 := ⟨⟨WU_of (mT2 (List.mem_of_getElem? (i := 141) rfl)) rfl, WU_of (mT2 (List.mem_of_getElem? (i := 144) rfl)) rfl, WU_of (mT1 (List.mem_of_getElem? (i := 11) rfl)) rfl, ⟨by decide +kernel, by decide +kernel, by decide +kernel⟩, by decide⟩, WU_of (mT2 (List.mem_of_getElem? (i := 142) rfl)) rfl, WU_of (mT2 (List.mem_of_getElem? (i := 143) rfl)) rfl, _, _, rfl⟩
theorem mv_X10_305 : MV RX10 305 7 yX7_elementAt cX7_elementAt 2 ((Option.some Jvm.ClassFile.FieldType.long)) 1 := ⟨⟨WU_of (mT2 (List.mem_of_getElem? (i := 145) rfl)) rfl, WU_of (mT2 (List.mem_of_getElem? (i := 148) rfl)) rfl, WU_of (mT1 (List.mem_of_getElem? (i := 11) rfl)) rfl, ⟨by decide +kernel, by decide +kernel, by decide +kernel⟩, by decide⟩, WU_of (mT2 (List.mem_of_getElem? (i := 146) rfl)) rfl, WU_of (mT2 (List.mem_of_getElem? (i := 147) rfl)) rfl, _, _, rfl⟩
theorem mv_L_23 : MV RL 23 10 yX10_mend cX10_mend 5 ((Option.some Jvm.ClassFile.FieldType.int)) 3 := ⟨⟨WU_of (mT2 (List.mem_of_getElem? (i := 149) rfl)) rfl, WU_of (mT2 (List.mem_of_getElem? (i := 152) rfl)) rfl, WU_of (mT1 (List.mem_of_getElem? (i := 1) rfl)) rfl, ⟨by decide +kernel, by decide +kernel, by decide +kernel⟩, by decide⟩, WU_of (mT2 (List.mem_of_getElem? (i := 150) rfl)) rfl, WU_of (mT2 (List.mem_of_getElem? (i := 151) rfl)) rfl, _, _, rfl⟩
theorem mv_X10_98 : MV RX10 98 9 yX9_has cX9_has 3 ((Option.some Jvm.ClassFile.FieldType.boolean)) 2 := ⟨⟨WU_of (mT2 (List.mem_of_getElem? (i := 153) rfl)) rfl, WU_of (mT2 (List.mem_of_getElem? (i := 156) rfl)) rfl, WU_of (mT1 (List.mem_of_getElem? (i := 2) rfl)) rfl, ⟨by decide +kernel, by decide +kernel, by decide +kernel⟩, by decide⟩, WU_of (mT2 (List.mem_of_getElem? (i := 154) rfl)) rfl, WU_of (mT2 (List.mem_of_getElem? (i := 155) rfl)) rfl, _, _, rfl⟩
theorem mv_X10_101 : MV RX10 101 9 yX9_value cX9_value 3 ((Option.some Jvm.ClassFile.FieldType.int)) 2 := ⟨⟨WU_of (mT2 (List.mem_of_getElem? (i := 157) rfl)) rfl, WU_of (mT2 (List.mem_of_getElem? (i := 160) rfl)) rfl, WU_of (mT1 (List.mem_of_getElem? (i := 2) rfl)) rfl, ⟨by decide +kernel, by decide +kernel, by decide +kernel⟩, by decide⟩, WU_of (mT2 (List.mem_of_getElem? (i := 158) rfl)) rfl, WU_of (mT2 (List.mem_of_getElem? (i := 159) rfl)) rfl, _, _, rfl⟩
theorem mv_X10_105 : MV RX10 105 1 yX1_note cX1_note 5 ((Option.none : Option Jvm.ClassFile.FieldType)) 4 := ⟨⟨WU_of (mT2 (List.mem_of_getElem? (i := 161) rfl)) rfl, WU_of (mT2 (List.mem_of_getElem? (i := 164) rfl)) rfl, WU_of (mT1 (List.mem_of_getElem? (i := 4) rfl)) rfl, ⟨by decide +kernel, by decide +kernel, by decide +kernel⟩, by decide⟩, WU_of (mT2 (List.mem_of_getElem? (i := 162) rfl)) rfl, WU_of (mT2 (List.mem_of_getElem? (i := 163) rfl)) rfl, _, _, rfl⟩
theorem mv_X1_26 : MV RX1 26 1 yX1_forgetOldest cX1_forgetOldest 2 ((Option.none : Option Jvm.ClassFile.FieldType)) 0 := ⟨⟨WU_of (mT2 (List.mem_of_getElem? (i := 165) rfl)) rfl, WU_of (mT2 (List.mem_of_getElem? (i := 168) rfl)) rfl, WU_of (mT1 (List.mem_of_getElem? (i := 4) rfl)) rfl, ⟨by decide +kernel, by decide +kernel, by decide +kernel⟩, by decide⟩, WU_of (mT2 (List.mem_of_getElem? (i := 167) rfl)) rfl, WU_of (mP1 (List.mem_of_getElem? (i := 2) rfl)) rfl, _, _, rfl⟩
theorem mv_X10_109 : MV RX10 109 9 yX9_become cX9_become 4 ((Option.none : Option Jvm.ClassFile.FieldType)) 3 := ⟨⟨WU_of (mT2 (List.mem_of_getElem? (i := 169) rfl)) rfl, WU_of (mT2 (List.mem_of_getElem? (i := 124) rfl)) rfl, WU_of (mT1 (List.mem_of_getElem? (i := 2) rfl)) rfl, ⟨by decide +kernel, by decide +kernel, by decide +kernel⟩, by decide⟩, WU_of (mT2 (List.mem_of_getElem? (i := 122) rfl)) rfl, WU_of (mT2 (List.mem_of_getElem? (i := 123) rfl)) rfl, _, _, rfl⟩
theorem mv_L_27 : MV RL 27 10 yX10_of cX10_of 3 ((Option.some Jvm.ClassFile.FieldType.int)) 2 := ⟨⟨WU_of (mT2 (List.mem_of_getElem? (i := 170) rfl)) rfl, WU_of (mT2 (List.mem_of_getElem? (i := 173) rfl)) rfl, WU_of (mT1 (List.mem_of_getElem? (i := 1) rfl)) rfl, ⟨by decide +kernel, by decide +kernel, by decide +kernel⟩, by decide⟩, WU_of (mT2 (List.mem_of_getElem? (i := 171) rfl)) rfl, WU_of (mT2 (List.mem_of_getElem? (i := 172) rfl)) rfl, _, _, rfl⟩
theorem mv_L_31 : MV RL 31 10 yX10_feed cX10_feed 2 ((Option.some Jvm.ClassFile.FieldType.int)) 1 := ⟨⟨WU_of (mT2 (List.mem_of_getElem? (i := 174) rfl)) rfl, WU_of (mT2 (List.mem_of_getElem? (i := 177) rfl)) rfl, WU_of (mT1 (List.mem_of_getElem? (i := 1) rfl)) rfl, ⟨by decide +kernel, by decide +kernel, by decide +kernel⟩, by decide⟩, WU_of (mT2 (List.mem_of_getElem? (i := 175) rfl)) rfl, WU_of (mT2 (List.mem_of_getElem? (i := 176) rfl)) rfl, _, _, rfl⟩
theorem mv_X10_113 : MV RX10 113 6 yX6_take cX6_take 2 ((Option.some Jvm.ClassFile.FieldType.int)) 1 := ⟨⟨WU_of (mT2 (List.mem_of_getElem? (i := 178) rfl)) rfl, WU_of (mT2 (List.mem_of_getElem? (i := 181) rfl)) rfl, WU_of (mT1 (List.mem_of_getElem? (i := 5) rfl)) rfl, ⟨by decide +kernel, by decide +kernel, by decide +kernel⟩, by decide⟩, WU_of (mT2 (List.mem_of_getElem? (i := 179) rfl)) rfl, WU_of (mT2 (List.mem_of_getElem? (i := 180) rfl)) rfl, _, _, rfl⟩
theorem mv_L_36 : MV RL 36 10 yX10_law cX10_law 2 ((Option.some Jvm.ClassFile.FieldType.int)) 0 := ⟨⟨WU_of (mT2 (List.mem_of_getElem? (i := 182) rfl)) rfl, WU_of (mT2 (List.mem_of_getElem? (i := 185) rfl)) rfl, WU_of (mT1 (List.mem_of_getElem? (i := 1) rfl)) rfl, ⟨by decide +kernel, by decide +kernel, by decide +kernel⟩, by decide⟩, WU_of (mT2 (List.mem_of_getElem? (i := 183) rfl)) rfl, WU_of (mT2 (List.mem_of_getElem? (i := 184) rfl)) rfl, _, _, rfl⟩
theorem mv_X10_117 : MV RX10 117 6 yX6_read cX6_read 2 ((Option.some Jvm.ClassFile.FieldType.int)) 0 := ⟨⟨WU_of (mT2 (List.mem_of_getElem? (i := 186) rfl)) rfl, WU_of (mT2 (List.mem_of_getElem? (i := 189) rfl)) rfl, WU_of (mT1 (List.mem_of_getElem? (i := 5) rfl)) rfl, ⟨by decide +kernel, by decide +kernel, by decide +kernel⟩, by decide⟩, WU_of (mT2 (List.mem_of_getElem? (i := 187) rfl)) rfl, WU_of (mT2 (List.mem_of_getElem? (i := 188) rfl)) rfl, _, _, rfl⟩
theorem mv_X6_36 : MV RX6 36 6 yX6_line cX6_line 1 ((Option.none : Option Jvm.ClassFile.FieldType)) 0 := ⟨⟨WU_of (mT2 (List.mem_of_getElem? (i := 190) rfl)) rfl, WU_of (mT2 (List.mem_of_getElem? (i := 193) rfl)) rfl, WU_of (mT1 (List.mem_of_getElem? (i := 5) rfl)) rfl, ⟨by decide +kernel, by decide +kernel, by decide +kernel⟩, by decide⟩, WU_of (mT2 (List.mem_of_getElem? (i := 192) rfl)) rfl, WU_of (mP1 (List.mem_of_getElem? (i := 3) rfl)) rfl, _, _, rfl⟩
theorem mv_X6_46 : MV RX6 46 6 yX6_either cX6_either 3 ((Option.none : Option Jvm.ClassFile.FieldType)) 1 := ⟨⟨WU_of (mT2 (List.mem_of_getElem? (i := 194) rfl)) rfl, WU_of (mT2 (List.mem_of_getElem? (i := 197) rfl)) rfl, WU_of (mT1 (List.mem_of_getElem? (i := 5) rfl)) rfl, ⟨by decide +kernel, by decide +kernel, by decide +kernel⟩, by decide⟩, WU_of (mT2 (List.mem_of_getElem? (i := 196) rfl)) rfl, WU_of (mP1 (List.mem_of_getElem? (i := 4) rfl)) rfl, _, _, rfl⟩
theorem mv_X6_54 : MV RX6 54 6 yX6_both cX6_both 3 ((Option.none : Option Jvm.ClassFile.FieldType)) 1 := ⟨⟨WU_of (mT2 (List.mem_of_getElem? (i := 198) rfl)) rfl, WU_of (mT2 (List.mem_of_getElem? (i := 201) rfl)) rfl, WU_of (mT1 (List.mem_of_getElem? (i := 5) rfl)) rfl, ⟨by decide +kernel, by decide +kernel, by decide +kernel⟩, by decide⟩, WU_of (mT2 (List.mem_of_getElem? (i := 200) rfl)) rfl, WU_of (mP1 (List.mem_of_getElem? (i := 5) rfl)) rfl, _, _, rfl⟩
theorem mv_X6_57 : MV RX6 57 6 yX6_compared cX6_compared 3 ((Option.none : Option Jvm.ClassFile.FieldType)) 1 := ⟨⟨WU_of (mT2 (List.mem_of_getElem? (i := 202) rfl)) rfl, WU_of (mT2 (List.mem_of_getElem? (i := 205) rfl)) rfl, WU_of (mT1 (List.mem_of_getElem? (i := 5) rfl)) rfl, ⟨by decide +kernel, by decide +kernel, by decide +kernel⟩, by decide⟩, WU_of (mT2 (List.mem_of_getElem? (i := 204) rfl)) rfl, WU_of (mP1 (List.mem_of_getElem? (i := 6) rfl)) rfl, _, _, rfl⟩
theorem mv_X6_60 : MV RX6 60 6 yX6_sum cX6_sum 4 ((Option.none : Option Jvm.ClassFile.FieldType)) 1 := ⟨⟨WU_of (mT2 (List.mem_of_getElem? (i := 206) rfl)) rfl, WU_of (mT2 (List.mem_of_getElem? (i := 209) rfl)) rfl, WU_of (mT1 (List.mem_of_getElem? (i := 5) rfl)) rfl, ⟨by decide +kernel, by decide +kernel, by decide +kernel⟩, by decide⟩, WU_of (mT2 (List.mem_of_getElem? (i := 208) rfl)) rfl, WU_of (mP1 (List.mem_of_getElem? (i := 7) rfl)) rfl, _, _, rfl⟩
theorem mv_X6_67 : MV RX6 67 6 yX6_product cX6_product 4 ((Option.none : Option Jvm.ClassFile.FieldType)) 1 := ⟨⟨WU_of (mT2 (List.mem_of_getElem? (i := 210) rfl)) rfl, WU_of (mT2 (List.mem_of_getElem? (i := 213) rfl)) rfl, WU_of (mT1 (List.mem_of_getElem? (i := 5) rfl)) rfl, ⟨by decide +kernel, by decide +kernel, by decide +kernel⟩, by decide⟩, WU_of (mT2 (List.mem_of_getElem? (i := 212) rfl)) rfl, WU_of (mP1 (List.mem_of_getElem? (i := 8) rfl)) rfl, _, _, rfl⟩
theorem mv_X6_70 : MV RX6 70 6 yX6_operand cX6_operand 3 ((Option.none : Option Jvm.ClassFile.FieldType)) 1 := ⟨⟨WU_of (mT2 (List.mem_of_getElem? (i := 214) rfl)) rfl, WU_of (mT2 (List.mem_of_getElem? (i := 217) rfl)) rfl, WU_of (mT1 (List.mem_of_getElem? (i := 5) rfl)) rfl, ⟨by decide +kernel, by decide +kernel, by decide +kernel⟩, by decide⟩, WU_of (mT2 (List.mem_of_getElem? (i := 216) rfl)) rfl, WU_of (mP1 (List.mem_of_getElem? (i := 9) rfl)) rfl, _, _, rfl⟩
theorem mv_X6_63 : MV RX6 63 6 yX6_letter cX6_letter 1 ((Option.some Jvm.ClassFile.FieldType.int)) 0 := ⟨⟨WU_of (mT2 (List.mem_of_getElem? (i := 218) rfl)) rfl, WU_of (mT2 (List.mem_of_getElem? (i := 221) rfl)) rfl, WU_of (mT1 (List.mem_of_getElem? (i := 5) rfl)) rfl, ⟨by decide +kernel, by decide +kernel, by decide +kernel⟩, by decide⟩, WU_of (mT2 (List.mem_of_getElem? (i := 220) rfl)) rfl, WU_of (mP1 (List.mem_of_getElem? (i := 10) rfl)) rfl, _, _, rfl⟩
theorem ms_X6_73 : MS RX6 73 yX6_isDigit cX6_isDigit 1 ((Option.some Jvm.ClassFile.FieldType.boolean)) 1 := ⟨⟨WU_of (mT2 (List.mem_of_getElem? (i := 222) rfl)) rfl, WU_of (mT2 (List.mem_of_getElem? (i := 224) rfl)) rfl, WU_of (mT1 (List.mem_of_getElem? (i := 5) rfl)) rfl, ⟨by decide +kernel, by decide +kernel, by decide +kernel⟩, by decide⟩, WU_of (mT2 (List.mem_of_getElem? (i := 223) rfl)) rfl⟩
theorem mv_X6_76 : MV RX6 76 6 yX6_number cX6_number 3 ((Option.none : Option Jvm.ClassFile.FieldType)) 0 := ⟨⟨WU_of (mT2 (List.mem_of_getElem? (i := 225) rfl)) rfl, WU_of (mT2 (List.mem_of_getElem? (i := 228) rfl)) rfl, WU_of (mT1 (List.mem_of_getElem? (i := 5) rfl)) rfl, ⟨by decide +kernel, by decide +kernel, by decide +kernel⟩, by decide⟩, WU_of (mT2 (List.mem_of_getElem? (i := 227) rfl)) rfl, WU_of (mP1 (List.mem_of_getElem? (i := 11) rfl)) rfl, _, _, rfl⟩
theorem mv_X6_50 : MV RX6 50 6 yX6_emit cX6_emit 3 ((Option.none : Option Jvm.ClassFile.FieldType)) 2 := ⟨⟨WU_of (mT2 (List.mem_of_getElem? (i := 229) rfl)) rfl, WU_of (mT2 (List.mem_of_getElem? (i := 232) rfl)) rfl, WU_of (mT1 (List.mem_of_getElem? (i := 5) rfl)) rfl, ⟨by decide +kernel, by decide +kernel, by decide +kernel⟩, by decide⟩, WU_of (mT2 (List.mem_of_getElem? (i := 231) rfl)) rfl, WU_of (mP1 (List.mem_of_getElem? (i := 12) rfl)) rfl, _, _, rfl⟩
theorem ms_X6_79 : MS RX6 79 yX6_nameOf cX6_nameOf 1 ((Option.some Jvm.ClassFile.FieldType.int)) 1 := ⟨⟨WU_of (mT2 (List.mem_of_getElem? (i := 233) rfl)) rfl, WU_of (mT2 (List.mem_of_getElem? (i := 235) rfl)) rfl, WU_of (mT1 (List.mem_of_getElem? (i := 5) rfl)) rfl, ⟨by decide +kernel, by decide +kernel, by decide +kernel⟩, by decide⟩, WU_of (mT2 (List.mem_of_getElem? (i := 234) rfl)) rfl⟩
theorem mv_X6_39 : MV RX6 39 6 yX6_accepts cX6_accepts 2 ((Option.some Jvm.ClassFile.FieldType.boolean)) 1 := ⟨⟨WU_of (mT2 (List.mem_of_getElem? (i := 236) rfl)) rfl, WU_of (mT2 (List.mem_of_getElem? (i := 239) rfl)) rfl, WU_of (mT1 (List.mem_of_getElem? (i := 5) rfl)) rfl, ⟨by decide +kernel, by decide +kernel, by decide +kernel⟩, by decide⟩, WU_of (mT2 (List.mem_of_getElem? (i := 238) rfl)) rfl, WU_of (mP1 (List.mem_of_getElem? (i := 13) rfl)) rfl, _, _, rfl⟩
theorem mv_X6_43 : MV RX6 43 6 yX6_refuse cX6_refuse 1 ((Option.none : Option Jvm.ClassFile.FieldType)) 0 := ⟨⟨WU_of (mT3 (List.mem_of_getElem? (i := 0) rfl)) rfl, WU_of (mT3 (List.mem_of_getElem? (i := 3) rfl)) rfl, WU_of (mT1 (List.mem_of_getElem? (i := 5) rfl)) rfl, ⟨by decide +kernel, by decide +kernel, by decide +kernel⟩, by decide⟩, WU_of (mT3 (List.mem_of_getElem? (i := 2) rfl)) rfl, WU_of (mP1 (List.mem_of_getElem? (i := 14) rfl)) rfl, _, _, rfl⟩
theorem mv_X10_121 : MV RX10 121 9 yX9_obey cX9_obey 2 ((Option.none : Option Jvm.ClassFile.FieldType)) 1 := ⟨⟨WU_of (mT3 (List.mem_of_getElem? (i := 4) rfl)) rfl, WU_of (mT3 (List.mem_of_getElem? (i := 7) rfl)) rfl, WU_of (mT1 (List.mem_of_getElem? (i := 2) rfl)) rfl, ⟨by decide +kernel, by decide +kernel, by decide +kernel⟩, by decide⟩, WU_of (mT3 (List.mem_of_getElem? (i := 5) rfl)) rfl, WU_of (mT3 (List.mem_of_getElem? (i := 6) rfl)) rfl, _, _, rfl⟩
theorem mv_X9_51 : MV RX9 51 5 yX5_adopt cX5_adopt 5 ((Option.none : Option Jvm.ClassFile.FieldType)) 3 := ⟨⟨WU_of (mT3 (List.mem_of_getElem? (i := 8) rfl)) rfl, WU_of (mT3 (List.mem_of_getElem? (i := 11) rfl)) rfl, WU_of (mT1 (List.mem_of_getElem? (i := 3) rfl)) rfl, ⟨by decide +kernel, by decide +kernel, by decide +kernel⟩, by decide⟩, WU_of (mT3 (List.mem_of_getElem? (i := 9) rfl)) rfl, WU_of (mT3 (List.mem_of_getElem? (i := 10) rfl)) rfl, _, _, rfl⟩
theorem mv_L_41 : MV RL 41 10 yX10_drive cX10_drive 3 ((Option.some Jvm.ClassFile.FieldType.int)) 2 := ⟨⟨WU_of (mT3 (List.mem_of_getElem? (i := 12) rfl)) rfl, WU_of (mT3 (List.mem_of_getElem? (i := 15) rfl)) rfl, WU_of (mT1 (List.mem_of_getElem? (i := 1) rfl)) rfl, ⟨by decide +kernel, by decide +kernel, by decide +kernel⟩, by decide⟩, WU_of (mT3 (List.mem_of_getElem? (i := 13) rfl)) rfl, WU_of (mT3 (List.mem_of_getElem? (i := 14) rfl)) rfl, _, _, rfl⟩
theorem mv_X10_125 : MV RX10 125 9 yX9_knows cX9_knows 2 ((Option.some Jvm.ClassFile.FieldType.boolean)) 1 := ⟨⟨WU_of (mT3 (List.mem_of_getElem? (i := 16) rfl)) rfl, WU_of (mT3 (List.mem_of_getElem? (i := 19) rfl)) rfl, WU_of (mT1 (List.mem_of_getElem? (i := 2) rfl)) rfl, ⟨by decide +kernel, by decide +kernel, by decide +kernel⟩, by decide⟩, WU_of (mT3 (List.mem_of_getElem? (i := 17) rfl)) rfl, WU_of (mT3 (List.mem_of_getElem? (i := 18) rfl)) rfl, _, _, rfl⟩
theorem mv_X9_61 : MV RX9 61 9 yX9_sets cX9_sets 1 ((Option.some Jvm.ClassFile.FieldType.int)) 0 := ⟨⟨WU_of (mT3 (List.mem_of_getElem? (i := 20) rfl)) rfl, WU_of (mT3 (List.mem_of_getElem? (i := 23) rfl)) rfl, WU_of (mT1 (List.mem_of_getElem? (i := 2) rfl)) rfl, ⟨by decide +kernel, by decide +kernel, by decide +kernel⟩, by decide⟩, WU_of (mT3 (List.mem_of_getElem? (i := 21) rfl)) rfl, WU_of (mT3 (List.mem_of_getElem? (i := 22) rfl)) rfl, _, _, rfl⟩
theorem ms_X9_55 : MS RX9 55 yJ9_min_7cf53 cJ9_min_7cf53 2 ((Option.some Jvm.ClassFile.FieldType.int)) 2 := ⟨⟨WU_of (mT3 (List.mem_of_getElem? (i := 24) rfl)) rfl, WU_of (mT3 (List.mem_of_getElem? (i := 26) rfl)) rfl, WU_of (mT1 (List.mem_of_getElem? (i := 13) rfl)) rfl, ⟨by decide +kernel, by decide +kernel, by decide +kernel⟩, by decide⟩, WU_of (mT3 (List.mem_of_getElem? (i := 25) rfl)) rfl⟩
theorem mv_X10_129 : MV RX10 129 3 yX3_wholeWith cX3_wholeWith 3 ((Option.none : Option Jvm.ClassFile.FieldType)) 1 := ⟨⟨WU_of (mT3 (List.mem_of_getElem? (i := 27) rfl)) rfl, WU_of (mT3 (List.mem_of_getElem? (i := 30) rfl)) rfl, WU_of (mT1 (List.mem_of_getElem? (i := 6) rfl)) rfl, ⟨by decide +kernel, by decide +kernel, by decide +kernel⟩, by decide⟩, WU_of (mT3 (List.mem_of_getElem? (i := 28) rfl)) rfl, WU_of (mT3 (List.mem_of_getElem? (i := 29) rfl)) rfl, _, _, rfl⟩
theorem mv_X3_25 : MV RX3 25 3 yX3_beginWith cX3_beginWith 2 ((Option.none : Option Jvm.ClassFile.FieldType)) 1 := ⟨⟨WU_of (mT3 (List.mem_of_getElem? (i := 31) rfl)) rfl, WU_of (mT3 (List.mem_of_getElem? (i := 34) rfl)) rfl, WU_of (mT1 (List.mem_of_getElem? (i := 6) rfl)) rfl, ⟨by decide +kernel, by decide +kernel, by decide +kernel⟩, by decide⟩, WU_of (mT3 (List.mem_of_getElem? (i := 32) rfl)) rfl, WU_of (mT3 (List.mem_of_getElem? (i := 33) rfl)) rfl, _, _, rfl⟩
theorem mv_X3_29 : MV RX3 29 3 yX3_driveOn cX3_driveOn 3 ((Option.none : Option Jvm.ClassFile.FieldType)) 0 := ⟨⟨WU_of (mT3 (List.mem_of_getElem? (i := 35) rfl)) rfl, WU_of (mT3 (List.mem_of_getElem? (i := 38) rfl)) rfl, WU_of (mT1 (List.mem_of_getElem? (i := 6) rfl)) rfl, ⟨by decide +kernel, by decide +kernel, by decide +kernel⟩, by decide⟩, WU_of (mT3 (List.mem_of_getElem? (i := 36) rfl)) rfl, WU_of (mT3 (List.mem_of_getElem? (i := 37) rfl)) rfl, _, _, rfl⟩
theorem mv_X3_61 : MV RX3 61 3 yX3_mindedHere cX3_mindedHere 3 ((Option.some Jvm.ClassFile.FieldType.int)) 0 := ⟨⟨WU_of (mT3 (List.mem_of_getElem? (i := 39) rfl)) rfl, WU_of (mT3 (List.mem_of_getElem? (i := 42) rfl)) rfl, WU_of (mT1 (List.mem_of_getElem? (i := 6) rfl)) rfl, ⟨by decide +kernel, by decide +kernel, by decide +kernel⟩, by decide⟩, WU_of (mT3 (List.mem_of_getElem? (i := 41) rfl)) rfl, WU_of (mP1 (List.mem_of_getElem? (i := 15) rfl)) rfl, _, _, rfl⟩
theorem mv_X3_77 : MV RX3 77 9 yX9_value cX9_value 3 ((Option.some Jvm.ClassFile.FieldType.int)) 2 := ⟨⟨WU_of (mT3 (List.mem_of_getElem? (i := 43) rfl)) rfl, WU_of (mT2 (List.mem_of_getElem? (i := 160) rfl)) rfl, WU_of (mT1 (List.mem_of_getElem? (i := 2) rfl)) rfl, ⟨by decide +kernel, by decide +kernel, by decide +kernel⟩, by decide⟩, WU_of (mT2 (List.mem_of_getElem? (i := 158) rfl)) rfl, WU_of (mT2 (List.mem_of_getElem? (i := 159) rfl)) rfl, _, _, rfl⟩
theorem mv_X3_81 : MV RX3 81 3 yX3_open cX3_open 1 ((Option.some Jvm.ClassFile.FieldType.int)) 0 := ⟨⟨WU_of (mT3 (List.mem_of_getElem? (i := 44) rfl)) rfl, WU_of (mT3 (List.mem_of_getElem? (i := 47) rfl)) rfl, WU_of (mT1 (List.mem_of_getElem? (i := 6) rfl)) rfl, ⟨by decide +kernel, by decide +kernel, by decide +kernel⟩, by decide⟩, WU_of (mT3 (List.mem_of_getElem? (i := 46) rfl)) rfl, WU_of (mP2 (List.mem_of_getElem? (i := 0) rfl)) rfl, _, _, rfl⟩
theorem mv_X3_65 : MV RX3 65 9 yX9_minutesTo cX9_minutesTo 4 ((Option.some Jvm.ClassFile.FieldType.int)) 1 := ⟨⟨WU_of (mT3 (List.mem_of_getElem? (i := 48) rfl)) rfl, WU_of (mT3 (List.mem_of_getElem? (i := 51) rfl)) rfl, WU_of (mT1 (List.mem_of_getElem? (i := 2) rfl)) rfl, ⟨by decide +kernel, by decide +kernel, by decide +kernel⟩, by decide⟩, WU_of (mT3 (List.mem_of_getElem? (i := 49) rfl)) rfl, WU_of (mT3 (List.mem_of_getElem? (i := 50) rfl)) rfl, _, _, rfl⟩
theorem mv_X9_65 : MV RX9 65 9 yX9_value cX9_value 3 ((Option.some Jvm.ClassFile.FieldType.int)) 2 := ⟨⟨WU_of (mT3 (List.mem_of_getElem? (i := 52) rfl)) rfl, WU_of (mT2 (List.mem_of_getElem? (i := 160) rfl)) rfl, WU_of (mT1 (List.mem_of_getElem? (i := 2) rfl)) rfl, ⟨by decide +kernel, by decide +kernel, by decide +kernel⟩, by decide⟩, WU_of (mT2 (List.mem_of_getElem? (i := 158) rfl)) rfl, WU_of (mT2 (List.mem_of_getElem? (i := 159) rfl)) rfl, _, _, rfl⟩
theorem mv_X3_71 : MV RX3 71 3 yX3_goFor cX3_goFor 7 ((Option.none : Option Jvm.ClassFile.FieldType)) 1 := ⟨⟨WU_of (mT3 (List.mem_of_getElem? (i := 53) rfl)) rfl, WU_of (mT3 (List.mem_of_getElem? (i := 56) rfl)) rfl, WU_of (mT1 (List.mem_of_getElem? (i := 6) rfl)) rfl, ⟨by decide +kernel, by decide +kernel, by decide +kernel⟩, by decide⟩, WU_of (mT3 (List.mem_of_getElem? (i := 55) rfl)) rfl, WU_of (mP2 (List.mem_of_getElem? (i := 1) rfl)) rfl, _, _, rfl⟩
theorem ms_X3_84 : MS RX3 84 yX3_leastOf cX3_leastOf 3 ((Option.some Jvm.ClassFile.FieldType.int)) 1 := ⟨⟨WU_of (mT3 (List.mem_of_getElem? (i := 57) rfl)) rfl, WU_of (mT3 (List.mem_of_getElem? (i := 59) rfl)) rfl, WU_of (mT1 (List.mem_of_getElem? (i := 6) rfl)) rfl, ⟨by decide +kernel, by decide +kernel, by decide +kernel⟩, by decide⟩, WU_of (mT3 (List.mem_of_getElem? (i := 58) rfl)) rfl⟩
theorem mv_X3_91 : MV RX3 91 5 yX5_minutes cX5_minutes 6 ((Option.some Jvm.ClassFile.FieldType.int)) 5 := ⟨⟨WU_of (mT3 (List.mem_of_getElem? (i := 60) rfl)) rfl, WU_of (mT3 (List.mem_of_getElem? (i := 63) rfl)) rfl, WU_of (mT1 (List.mem_of_getElem? (i := 3) rfl)) rfl, ⟨by decide +kernel, by decide +kernel, by decide +kernel⟩, by decide⟩, WU_of (mT3 (List.mem_of_getElem? (i := 61) rfl)) rfl, WU_of (mT3 (List.mem_of_getElem? (i := 62) rfl)) rfl, _, _, rfl⟩
theorem ms_X5_26 : MS RX5 26 yX5_held cX5_held 1 ((Option.some Jvm.ClassFile.FieldType.int)) 1 := ⟨⟨WU_of (mT3 (List.mem_of_getElem? (i := 64) rfl)) rfl, WU_of (mT3 (List.mem_of_getElem? (i := 66) rfl)) rfl, WU_of (mT1 (List.mem_of_getElem? (i := 3) rfl)) rfl, ⟨by decide +kernel, by decide +kernel, by decide +kernel⟩, by decide⟩, WU_of (mT3 (List.mem_of_getElem? (i := 65) rfl)) rfl⟩
theorem ms_X5_41 : MS RX5 41 yJ9_min_7cf53 cJ9_min_7cf53 2 ((Option.some Jvm.ClassFile.FieldType.int)) 2 := ⟨⟨WU_of (mT3 (List.mem_of_getElem? (i := 67) rfl)) rfl, WU_of (mT3 (List.mem_of_getElem? (i := 26) rfl)) rfl, WU_of (mT1 (List.mem_of_getElem? (i := 13) rfl)) rfl, ⟨by decide +kernel, by decide +kernel, by decide +kernel⟩, by decide⟩, WU_of (mT3 (List.mem_of_getElem? (i := 25) rfl)) rfl⟩
theorem ms_X5_47 : MS RX5 47 yJ9_max_7cf53 cJ9_max_7cf53 2 ((Option.some Jvm.ClassFile.FieldType.int)) 2 := ⟨⟨WU_of (mT3 (List.mem_of_getElem? (i := 68) rfl)) rfl, WU_of (mT3 (List.mem_of_getElem? (i := 70) rfl)) rfl, WU_of (mT1 (List.mem_of_getElem? (i := 13) rfl)) rfl, ⟨by decide +kernel, by decide +kernel, by decide +kernel⟩, by decide⟩, WU_of (mT3 (List.mem_of_getElem? (i := 69) rfl)) rfl⟩
theorem mv_X5_30 : MV RX5 30 5 yX5_firstThatCounts cX5_firstThatCounts 5 ((Option.some Jvm.ClassFile.FieldType.int)) 0 := ⟨⟨WU_of (mT3 (List.mem_of_getElem? (i := 71) rfl)) rfl, WU_of (mT3 (List.mem_of_getElem? (i := 74) rfl)) rfl, WU_of (mT1 (List.mem_of_getElem? (i := 3) rfl)) rfl, ⟨by decide +kernel, by decide +kernel, by decide +kernel⟩, by decide⟩, WU_of (mT3 (List.mem_of_getElem? (i := 73) rfl)) rfl, WU_of (mP2 (List.mem_of_getElem? (i := 2) rfl)) rfl, _, _, rfl⟩
theorem mv_X5_34 : MV RX5 34 5 yX5_named cX5_named 2 ((Option.some Jvm.ClassFile.FieldType.int)) 1 := ⟨⟨WU_of (mT3 (List.mem_of_getElem? (i := 75) rfl)) rfl, WU_of (mT3 (List.mem_of_getElem? (i := 78) rfl)) rfl, WU_of (mT1 (List.mem_of_getElem? (i := 3) rfl)) rfl, ⟨by decide +kernel, by decide +kernel, by decide +kernel⟩, by decide⟩, WU_of (mT3 (List.mem_of_getElem? (i := 77) rfl)) rfl, WU_of (mP2 (List.mem_of_getElem? (i := 3) rfl)) rfl, _, _, rfl⟩
theorem ms_X5_37 : MS RX5 37 yX5_together cX5_together 3 ((Option.some Jvm.ClassFile.FieldType.int)) 3 := ⟨⟨WU_of (mT3 (List.mem_of_getElem? (i := 79) rfl)) rfl, WU_of (mT3 (List.mem_of_getElem? (i := 81) rfl)) rfl, WU_of (mT1 (List.mem_of_getElem? (i := 3) rfl)) rfl, ⟨by decide +kernel, by decide +kernel, by decide +kernel⟩, by decide⟩, WU_of (mT3 (List.mem_of_getElem? (i := 80) rfl)) rfl⟩
theorem mv_X3_96 : MV RX3 96 3 yX3_noteGoing cX3_noteGoing 4 ((Option.none : Option Jvm.ClassFile.FieldType)) 3 := ⟨⟨WU_of (mT3 (List.mem_of_getElem? (i := 82) rfl)) rfl, WU_of (mT3 (List.mem_of_getElem? (i := 85) rfl)) rfl, WU_of (mT1 (List.mem_of_getElem? (i := 6) rfl)) rfl, ⟨by decide +kernel, by decide +kernel, by decide +kernel⟩, by decide⟩, WU_of (mT3 (List.mem_of_getElem? (i := 84) rfl)) rfl, WU_of (mP2 (List.mem_of_getElem? (i := 4) rfl)) rfl, _, _, rfl⟩
theorem mv_X3_74 : MV RX3 74 9 yX9_worthOf cX9_worthOf 4 ((Option.some Jvm.ClassFile.FieldType.int)) 1 := ⟨⟨WU_of (mT3 (List.mem_of_getElem? (i := 86) rfl)) rfl, WU_of (mT3 (List.mem_of_getElem? (i := 89) rfl)) rfl, WU_of (mT1 (List.mem_of_getElem? (i := 2) rfl)) rfl, ⟨by decide +kernel, by decide +kernel, by decide +kernel⟩, by decide⟩, WU_of (mT3 (List.mem_of_getElem? (i := 87) rfl)) rfl, WU_of (mT3 (List.mem_of_getElem? (i := 88) rfl)) rfl, _, _, rfl⟩
theorem mv_X10_145 : MV RX10 145 3 yX3_cost cX3_cost 1 ((Option.some Jvm.ClassFile.FieldType.int)) 0 := ⟨⟨WU_of (mT3 (List.mem_of_getElem? (i := 90) rfl)) rfl, WU_of (mT3 (List.mem_of_getElem? (i := 93) rfl)) rfl, WU_of (mT1 (List.mem_of_getElem? (i := 6) rfl)) rfl, ⟨by decide +kernel, by decide +kernel, by decide +kernel⟩, by decide⟩, WU_of (mT3 (List.mem_of_getElem? (i := 91) rfl)) rfl, WU_of (mT3 (List.mem_of_getElem? (i := 92) rfl)) rfl, _, _, rfl⟩
theorem mv_L_45 : MV RL 45 10 yX10_going cX10_going 4 ((Option.some Jvm.ClassFile.FieldType.int)) 3 := ⟨⟨WU_of (mT3 (List.mem_of_getElem? (i := 94) rfl)) rfl, WU_of (mT3 (List.mem_of_getElem? (i := 97) rfl)) rfl, WU_of (mT1 (List.mem_of_getElem? (i := 1) rfl)) rfl, ⟨by decide +kernel, by decide +kernel, by decide +kernel⟩, by decide⟩, WU_of (mT3 (List.mem_of_getElem? (i := 95) rfl)) rfl, WU_of (mT3 (List.mem_of_getElem? (i := 96) rfl)) rfl, _, _, rfl⟩
theorem mv_L_49 : MV RL 49 10 yX10_mean cX10_mean 2 ((Option.some Jvm.ClassFile.FieldType.long)) 1 := ⟨⟨WU_of (mT3 (List.mem_of_getElem? (i := 98) rfl)) rfl, WU_of (mT3 (List.mem_of_getElem? (i := 101) rfl)) rfl, WU_of (mT1 (List.mem_of_getElem? (i := 1) rfl)) rfl, ⟨by decide +kernel, by decide +kernel, by decide +kernel⟩, by decide⟩, WU_of (mT3 (List.mem_of_getElem? (i := 99) rfl)) rfl, WU_of (mT3 (List.mem_of_getElem? (i := 100) rfl)) rfl, _, _, rfl⟩
theorem k_X10_160 : Cond.constantLong RX10 160 (-9223372036854775808) ∈ WU := WU_of (mT3 (List.mem_of_getElem? (i := 102) rfl)) rfl
theorem mv_X10_162 : MV RX10 162 8 yX8_refresh cX8_refresh 2 ((Option.none : Option Jvm.ClassFile.FieldType)) 0 := ⟨⟨WU_of (mT3 (List.mem_of_getElem? (i := 103) rfl)) rfl, WU_of (mT3 (List.mem_of_getElem? (i := 106) rfl)) rfl, WU_of (mT1 (List.mem_of_getElem? (i := 7) rfl)) rfl, ⟨by decide +kernel, by decide +kernel, by decide +kernel⟩, by decide⟩, WU_of (mT3 (List.mem_of_getElem? (i := 104) rfl)) rfl, WU_of (mT3 (List.mem_of_getElem? (i := 105) rfl)) rfl, _, _, rfl⟩
theorem mv_X8_49 : MV RX8 49 9 yX9_sets cX9_sets 1 ((Option.some Jvm.ClassFile.FieldType.int)) 0 := ⟨⟨WU_of (mT3 (List.mem_of_getElem? (i := 107) rfl)) rfl, WU_of (mT3 (List.mem_of_getElem? (i := 23) rfl)) rfl, WU_of (mT1 (List.mem_of_getElem? (i := 2) rfl)) rfl, ⟨by decide +kernel, by decide +kernel, by decide +kernel⟩, by decide⟩, WU_of (mT3 (List.mem_of_getElem? (i := 21) rfl)) rfl, WU_of (mT3 (List.mem_of_getElem? (i := 22) rfl)) rfl, _, _, rfl⟩
theorem mv_X8_53 : MV RX8 53 3 yX3_wholeWith cX3_wholeWith 3 ((Option.none : Option Jvm.ClassFile.FieldType)) 1 := ⟨⟨WU_of (mT3 (List.mem_of_getElem? (i := 108) rfl)) rfl, WU_of (mT3 (List.mem_of_getElem? (i := 30) rfl)) rfl, WU_of (mT1 (List.mem_of_getElem? (i := 6) rfl)) rfl, ⟨by decide +kernel, by decide +kernel, by decide +kernel⟩, by decide⟩, WU_of (mT3 (List.mem_of_getElem? (i := 28) rfl)) rfl, WU_of (mT3 (List.mem_of_getElem? (i := 29) rfl)) rfl, _, _, rfl⟩
theorem mv_X8_57 : MV RX8 57 3 yX3_cost cX3_cost 1 ((Option.some Jvm.ClassFile.FieldType.int)) 0 := ⟨⟨WU_of (mT3 (List.mem_of_getElem? (i := 109) rfl)) rfl, WU_of (mT3 (List.mem_of_getElem? (i := 93) rfl)) rfl, WU_of (mT1 (List.mem_of_getElem? (i := 6) rfl)) rfl, ⟨by decide +kernel, by decide +kernel, by decide +kernel⟩, by decide⟩, WU_of (mT3 (List.mem_of_getElem? (i := 91) rfl)) rfl, WU_of (mT3 (List.mem_of_getElem? (i := 92) rfl)) rfl, _, _, rfl⟩
theorem mv_X10_165 : MV RX10 165 8 yX8_weigh cX8_weigh 9 ((Option.none : Option Jvm.ClassFile.FieldType)) 2 := ⟨⟨WU_of (mT3 (List.mem_of_getElem? (i := 110) rfl)) rfl, WU_of (mT3 (List.mem_of_getElem? (i := 113) rfl)) rfl, WU_of (mT1 (List.mem_of_getElem? (i := 7) rfl)) rfl, ⟨by decide +kernel, by decide +kernel, by decide +kernel⟩, by decide⟩, WU_of (mT3 (List.mem_of_getElem? (i := 111) rfl)) rfl, WU_of (mT3 (List.mem_of_getElem? (i := 112) rfl)) rfl, _, _, rfl⟩
theorem k_X8_66 : Cond.constantLong RX8 66 (144) ∈ WU := WU_of (mT3 (List.mem_of_getElem? (i := 114) rfl)) rfl
theorem k_X8_68 : Cond.constantLong RX8 68 (12) ∈ WU := WU_of (mT3 (List.mem_of_getElem? (i := 115) rfl)) rfl
theorem mv_X8_70 : MV RX8 70 9 yX9_value cX9_value 3 ((Option.some Jvm.ClassFile.FieldType.int)) 2 := ⟨⟨WU_of (mT3 (List.mem_of_getElem? (i := 116) rfl)) rfl, WU_of (mT2 (List.mem_of_getElem? (i := 160) rfl)) rfl, WU_of (mT1 (List.mem_of_getElem? (i := 2) rfl)) rfl, ⟨by decide +kernel, by decide +kernel, by decide +kernel⟩, by decide⟩, WU_of (mT2 (List.mem_of_getElem? (i := 158) rfl)) rfl, WU_of (mT2 (List.mem_of_getElem? (i := 159) rfl)) rfl, _, _, rfl⟩
theorem ms_X8_74 : MS RX8 74 yJ6_bitCount_0f7a4 cJ6_bitCount_0f7a4 1 ((Option.some Jvm.ClassFile.FieldType.int)) 1 := ⟨⟨WU_of (mT3 (List.mem_of_getElem? (i := 117) rfl)) rfl, WU_of (mT3 (List.mem_of_getElem? (i := 119) rfl)) rfl, WU_of (mT1 (List.mem_of_getElem? (i := 14) rfl)) rfl, ⟨by decide +kernel, by decide +kernel, by decide +kernel⟩, by decide⟩, WU_of (mT3 (List.mem_of_getElem? (i := 118) rfl)) rfl⟩
theorem k_J6_265 : Cond.constant RJ6 265 (1431655765) ∈ WU := WU_of (mT3 (List.mem_of_getElem? (i := 120) rfl)) rfl
theorem k_J6_266 : Cond.constant RJ6 266 (858993459) ∈ WU := WU_of (mT3 (List.mem_of_getElem? (i := 121) rfl)) rfl
theorem k_J6_267 : Cond.constant RJ6 267 (252645135) ∈ WU := WU_of (mT3 (List.mem_of_getElem? (i := 122) rfl)) rfl
theorem mv_X8_80 : MV RX8 80 8 yX8_part cX8_part 8 ((Option.none : Option Jvm.ClassFile.FieldType)) 3 := ⟨⟨WU_of (mT3 (List.mem_of_getElem? (i := 123) rfl)) rfl, WU_of (mT3 (List.mem_of_getElem? (i := 126) rfl)) rfl, WU_of (mT1 (List.mem_of_getElem? (i := 7) rfl)) rfl, ⟨by decide +kernel, by decide +kernel, by decide +kernel⟩, by decide⟩, WU_of (mT3 (List.mem_of_getElem? (i := 125) rfl)) rfl, WU_of (mP2 (List.mem_of_getElem? (i := 5) rfl)) rfl, _, _, rfl⟩
theorem mv_X10_169 : MV RX10 169 8 yX8_costs cX8_costs 4 ((Option.some Jvm.ClassFile.FieldType.long)) 0 := ⟨⟨WU_of (mT3 (List.mem_of_getElem? (i := 127) rfl)) rfl, WU_of (mT3 (List.mem_of_getElem? (i := 130) rfl)) rfl, WU_of (mT1 (List.mem_of_getElem? (i := 7) rfl)) rfl, ⟨by decide +kernel, by decide +kernel, by decide +kernel⟩, by decide⟩, WU_of (mT3 (List.mem_of_getElem? (i := 128) rfl)) rfl, WU_of (mT3 (List.mem_of_getElem? (i := 129) rfl)) rfl, _, _, rfl⟩
theorem mv_X10_173 : MV RX10 173 8 yX8_inLowestTerms cX8_inLowestTerms 11 ((Option.some Jvm.ClassFile.FieldType.long)) 2 := ⟨⟨WU_of (mT3 (List.mem_of_getElem? (i := 131) rfl)) rfl, WU_of (mT3 (List.mem_of_getElem? (i := 134) rfl)) rfl, WU_of (mT1 (List.mem_of_getElem? (i := 7) rfl)) rfl, ⟨by decide +kernel, by decide +kernel, by decide +kernel⟩, by decide⟩, WU_of (mT3 (List.mem_of_getElem? (i := 132) rfl)) rfl, WU_of (mT3 (List.mem_of_getElem? (i := 133) rfl)) rfl, _, _, rfl⟩
theorem mv_L_54 : MV RL 54 10 yX10_likely cX10_likely 5 ((Option.some Jvm.ClassFile.FieldType.long)) 2 := ⟨⟨WU_of (mT3 (List.mem_of_getElem? (i := 135) rfl)) rfl, WU_of (mT3 (List.mem_of_getElem? (i := 138) rfl)) rfl, WU_of (mT1 (List.mem_of_getElem? (i := 1) rfl)) rfl, ⟨by decide +kernel, by decide +kernel, by decide +kernel⟩, by decide⟩, WU_of (mT3 (List.mem_of_getElem? (i := 136) rfl)) rfl, WU_of (mT3 (List.mem_of_getElem? (i := 137) rfl)) rfl, _, _, rfl⟩
theorem mv_X10_180 : MV RX10 180 8 yX8_waysWithoutGoing cX8_waysWithoutGoing 4 ((Option.some Jvm.ClassFile.FieldType.long)) 0 := ⟨⟨WU_of (mT3 (List.mem_of_getElem? (i := 139) rfl)) rfl, WU_of (mT3 (List.mem_of_getElem? (i := 142) rfl)) rfl, WU_of (mT1 (List.mem_of_getElem? (i := 7) rfl)) rfl, ⟨by decide +kernel, by decide +kernel, by decide +kernel⟩, by decide⟩, WU_of (mT3 (List.mem_of_getElem? (i := 140) rfl)) rfl, WU_of (mT3 (List.mem_of_getElem? (i := 141) rfl)) rfl, _, _, rfl⟩
theorem mv_X10_183 : MV RX10 183 8 yX8_waysWithLeft cX8_waysWithLeft 5 ((Option.some Jvm.ClassFile.FieldType.long)) 1 := ⟨⟨WU_of (mT3 (List.mem_of_getElem? (i := 143) rfl)) rfl, WU_of (mT3 (List.mem_of_getElem? (i := 146) rfl)) rfl, WU_of (mT1 (List.mem_of_getElem? (i := 7) rfl)) rfl, ⟨by decide +kernel, by decide +kernel, by decide +kernel⟩, by decide⟩, WU_of (mT3 (List.mem_of_getElem? (i := 144) rfl)) rfl, WU_of (mT3 (List.mem_of_getElem? (i := 145) rfl)) rfl, _, _, rfl⟩
theorem mv_L_59 : MV RL 59 10 yX10_aloud cX10_aloud 3 ((Option.some Jvm.ClassFile.FieldType.int)) 2 := ⟨⟨WU_of (mT3 (List.mem_of_getElem? (i := 147) rfl)) rfl, WU_of (mT3 (List.mem_of_getElem? (i := 150) rfl)) rfl, WU_of (mT1 (List.mem_of_getElem? (i := 1) rfl)) rfl, ⟨by decide +kernel, by decide +kernel, by decide +kernel⟩, by decide⟩, WU_of (mT3 (List.mem_of_getElem? (i := 148) rfl)) rfl, WU_of (mT3 (List.mem_of_getElem? (i := 149) rfl)) rfl, _, _, rfl⟩
theorem mv_X10_187 : MV RX10 187 9 yX9_minutesAloud cX9_minutesAloud 4 ((Option.some Jvm.ClassFile.FieldType.int)) 2 := ⟨⟨WU_of (mT3 (List.mem_of_getElem? (i := 151) rfl)) rfl, WU_of (mT3 (List.mem_of_getElem? (i := 154) rfl)) rfl, WU_of (mT1 (List.mem_of_getElem? (i := 2) rfl)) rfl, ⟨by decide +kernel, by decide +kernel, by decide +kernel⟩, by decide⟩, WU_of (mT3 (List.mem_of_getElem? (i := 152) rfl)) rfl, WU_of (mT3 (List.mem_of_getElem? (i := 153) rfl)) rfl, _, _, rfl⟩
theorem mv_X9_68 : MV RX9 68 9 yX9_minutesTo cX9_minutesTo 4 ((Option.some Jvm.ClassFile.FieldType.int)) 1 := ⟨⟨WU_of (mT3 (List.mem_of_getElem? (i := 155) rfl)) rfl, WU_of (mT3 (List.mem_of_getElem? (i := 51) rfl)) rfl, WU_of (mT1 (List.mem_of_getElem? (i := 2) rfl)) rfl, ⟨by decide +kernel, by decide +kernel, by decide +kernel⟩, by decide⟩, WU_of (mT3 (List.mem_of_getElem? (i := 49) rfl)) rfl, WU_of (mT3 (List.mem_of_getElem? (i := 50) rfl)) rfl, _, _, rfl⟩
theorem ms_X9_72 : MS RX9 72 yJ6_bitCount_0f7a4 cJ6_bitCount_0f7a4 1 ((Option.some Jvm.ClassFile.FieldType.int)) 1 := ⟨⟨WU_of (mT3 (List.mem_of_getElem? (i := 156) rfl)) rfl, WU_of (mT3 (List.mem_of_getElem? (i := 119) rfl)) rfl, WU_of (mT1 (List.mem_of_getElem? (i := 14) rfl)) rfl, ⟨by decide +kernel, by decide +kernel, by decide +kernel⟩, by decide⟩, WU_of (mT3 (List.mem_of_getElem? (i := 118) rfl)) rfl⟩
theorem mv_X9_77 : MV RX9 77 9 yX9_worthOf cX9_worthOf 4 ((Option.some Jvm.ClassFile.FieldType.int)) 1 := ⟨⟨WU_of (mT3 (List.mem_of_getElem? (i := 157) rfl)) rfl, WU_of (mT3 (List.mem_of_getElem? (i := 89) rfl)) rfl, WU_of (mT1 (List.mem_of_getElem? (i := 2) rfl)) rfl, ⟨by decide +kernel, by decide +kernel, by decide +kernel⟩, by decide⟩, WU_of (mT3 (List.mem_of_getElem? (i := 87) rfl)) rfl, WU_of (mT3 (List.mem_of_getElem? (i := 88) rfl)) rfl, _, _, rfl⟩
theorem mv_X9_80 : MV RX9 80 5 yX5_minutes cX5_minutes 6 ((Option.some Jvm.ClassFile.FieldType.int)) 5 := ⟨⟨WU_of (mT3 (List.mem_of_getElem? (i := 158) rfl)) rfl, WU_of (mT3 (List.mem_of_getElem? (i := 63) rfl)) rfl, WU_of (mT1 (List.mem_of_getElem? (i := 3) rfl)) rfl, ⟨by decide +kernel, by decide +kernel, by decide +kernel⟩, by decide⟩, WU_of (mT3 (List.mem_of_getElem? (i := 61) rfl)) rfl, WU_of (mT3 (List.mem_of_getElem? (i := 62) rfl)) rfl, _, _, rfl⟩
theorem mv_L_63 : MV RL 63 10 yX10_who cX10_who 4 ((Option.some Jvm.ClassFile.FieldType.int)) 1 := ⟨⟨WU_of (mT3 (List.mem_of_getElem? (i := 159) rfl)) rfl, WU_of (mT3 (List.mem_of_getElem? (i := 162) rfl)) rfl, WU_of (mT1 (List.mem_of_getElem? (i := 1) rfl)) rfl, ⟨by decide +kernel, by decide +kernel, by decide +kernel⟩, by decide⟩, WU_of (mT3 (List.mem_of_getElem? (i := 160) rfl)) rfl, WU_of (mT3 (List.mem_of_getElem? (i := 161) rfl)) rfl, _, _, rfl⟩
theorem mv_L_67 : MV RL 67 10 yX10_doorstep cX10_doorstep 3 ((Option.some Jvm.ClassFile.FieldType.long)) 1 := ⟨⟨WU_of (mT3 (List.mem_of_getElem? (i := 163) rfl)) rfl, WU_of (mT3 (List.mem_of_getElem? (i := 166) rfl)) rfl, WU_of (mT1 (List.mem_of_getElem? (i := 1) rfl)) rfl, ⟨by decide +kernel, by decide +kernel, by decide +kernel⟩, by decide⟩, WU_of (mT3 (List.mem_of_getElem? (i := 164) rfl)) rfl, WU_of (mT3 (List.mem_of_getElem? (i := 165) rfl)) rfl, _, _, rfl⟩
theorem k_X10_190 : Cond.constantLong RX10 190 (-2) ∈ WU := WU_of (mT3 (List.mem_of_getElem? (i := 167) rfl)) rfl
theorem mv_X10_192 : MV RX10 192 8 yX8_bestDoorstep cX8_bestDoorstep 7 ((Option.some Jvm.ClassFile.FieldType.int)) 0 := ⟨⟨WU_of (mT3 (List.mem_of_getElem? (i := 168) rfl)) rfl, WU_of (mT3 (List.mem_of_getElem? (i := 171) rfl)) rfl, WU_of (mT1 (List.mem_of_getElem? (i := 7) rfl)) rfl, ⟨by decide +kernel, by decide +kernel, by decide +kernel⟩, by decide⟩, WU_of (mT3 (List.mem_of_getElem? (i := 169) rfl)) rfl, WU_of (mT3 (List.mem_of_getElem? (i := 170) rfl)) rfl, _, _, rfl⟩
theorem k_X8_86 : Cond.constantLong RX8 86 (9223372036854775807) ∈ WU := WU_of (mT3 (List.mem_of_getElem? (i := 172) rfl)) rfl
theorem mv_X8_88 : MV RX8 88 8 yX8_weigh cX8_weigh 9 ((Option.none : Option Jvm.ClassFile.FieldType)) 2 := ⟨⟨WU_of (mT3 (List.mem_of_getElem? (i := 173) rfl)) rfl, WU_of (mT3 (List.mem_of_getElem? (i := 113) rfl)) rfl, WU_of (mT1 (List.mem_of_getElem? (i := 7) rfl)) rfl, ⟨by decide +kernel, by decide +kernel, by decide +kernel⟩, by decide⟩, WU_of (mT3 (List.mem_of_getElem? (i := 111) rfl)) rfl, WU_of (mT3 (List.mem_of_getElem? (i := 112) rfl)) rfl, _, _, rfl⟩
theorem mv_X8_92 : MV RX8 92 8 yX8_costs cX8_costs 4 ((Option.some Jvm.ClassFile.FieldType.long)) 0 := ⟨⟨WU_of (mT3 (List.mem_of_getElem? (i := 174) rfl)) rfl, WU_of (mT3 (List.mem_of_getElem? (i := 130) rfl)) rfl, WU_of (mT1 (List.mem_of_getElem? (i := 7) rfl)) rfl, ⟨by decide +kernel, by decide +kernel, by decide +kernel⟩, by decide⟩, WU_of (mT3 (List.mem_of_getElem? (i := 128) rfl)) rfl, WU_of (mT3 (List.mem_of_getElem? (i := 129) rfl)) rfl, _, _, rfl⟩
theorem mv_L_71 : MV RL 71 10 yX10_list cX10_list 4 ((Option.some Jvm.ClassFile.FieldType.long)) 2 := ⟨⟨WU_of (mT3 (List.mem_of_getElem? (i := 175) rfl)) rfl, WU_of (mT3 (List.mem_of_getElem? (i := 178) rfl)) rfl, WU_of (mT1 (List.mem_of_getElem? (i := 1) rfl)) rfl, ⟨by decide +kernel, by decide +kernel, by decide +kernel⟩, by decide⟩, WU_of (mT3 (List.mem_of_getElem? (i := 176) rfl)) rfl, WU_of (mT3 (List.mem_of_getElem? (i := 177) rfl)) rfl, _, _, rfl⟩
theorem mv_X10_195 : MV RX10 195 8 yX8_bestList cX8_bestList 11 ((Option.some Jvm.ClassFile.FieldType.int)) 1 := ⟨⟨WU_of (mT3 (List.mem_of_getElem? (i := 179) rfl)) rfl, WU_of (mT3 (List.mem_of_getElem? (i := 182) rfl)) rfl, WU_of (mT1 (List.mem_of_getElem? (i := 7) rfl)) rfl, ⟨by decide +kernel, by decide +kernel, by decide +kernel⟩, by decide⟩, WU_of (mT3 (List.mem_of_getElem? (i := 180) rfl)) rfl, WU_of (mT3 (List.mem_of_getElem? (i := 181) rfl)) rfl, _, _, rfl⟩
theorem k_X8_96 : Cond.constantLong RX8 96 (1728) ∈ WU := WU_of (mT3 (List.mem_of_getElem? (i := 183) rfl)) rfl
theorem ms_X8_98 : MS RX8 98 yJ9_min_f86c9 cJ9_min_f86c9 4 ((Option.some Jvm.ClassFile.FieldType.long)) 2 := ⟨⟨WU_of (mT3 (List.mem_of_getElem? (i := 184) rfl)) rfl, WU_of (mT3 (List.mem_of_getElem? (i := 186) rfl)) rfl, WU_of (mT1 (List.mem_of_getElem? (i := 13) rfl)) rfl, ⟨by decide +kernel, by decide +kernel, by decide +kernel⟩, by decide⟩, WU_of (mT3 (List.mem_of_getElem? (i := 185) rfl)) rfl⟩
theorem mv_L_75 : MV RL 75 10 yX10_onWith cX10_onWith 2 ((Option.some Jvm.ClassFile.FieldType.int)) 1 := ⟨⟨WU_of (mT3 (List.mem_of_getElem? (i := 187) rfl)) rfl, WU_of (mT3 (List.mem_of_getElem? (i := 190) rfl)) rfl, WU_of (mT1 (List.mem_of_getElem? (i := 1) rfl)) rfl, ⟨by decide +kernel, by decide +kernel, by decide +kernel⟩, by decide⟩, WU_of (mT3 (List.mem_of_getElem? (i := 188) rfl)) rfl, WU_of (mT3 (List.mem_of_getElem? (i := 189) rfl)) rfl, _, _, rfl⟩
theorem mv_L_79 : MV RL 79 10 yX10_judge cX10_judge 5 ((Option.some Jvm.ClassFile.FieldType.int)) 2 := ⟨⟨WU_of (mT3 (List.mem_of_getElem? (i := 191) rfl)) rfl, WU_of (mT3 (List.mem_of_getElem? (i := 194) rfl)) rfl, WU_of (mT1 (List.mem_of_getElem? (i := 1) rfl)) rfl, ⟨by decide +kernel, by decide +kernel, by decide +kernel⟩, by decide⟩, WU_of (mT3 (List.mem_of_getElem? (i := 192) rfl)) rfl, WU_of (mT3 (List.mem_of_getElem? (i := 193) rfl)) rfl, _, _, rfl⟩
theorem mv_X10_201 : MV RX10 201 7 yX7_refusalOfBytes cX7_refusalOfBytes 1 ((Option.some Jvm.ClassFile.FieldType.int)) 0 := ⟨⟨WU_of (mT3 (List.mem_of_getElem? (i := 195) rfl)) rfl, WU_of (mT3 (List.mem_of_getElem? (i := 198) rfl)) rfl, WU_of (mT1 (List.mem_of_getElem? (i := 11) rfl)) rfl, ⟨by decide +kernel, by decide +kernel, by decide +kernel⟩, by decide⟩, WU_of (mT3 (List.mem_of_getElem? (i := 196) rfl)) rfl, WU_of (mT3 (List.mem_of_getElem? (i := 197) rfl)) rfl, _, _, rfl⟩
theorem mv_X7_25 : MV RX7 25 7 yX7_holdsBytes cX7_holdsBytes 1 ((Option.some Jvm.ClassFile.FieldType.boolean)) 0 := ⟨⟨WU_of (mT3 (List.mem_of_getElem? (i := 199) rfl)) rfl, WU_of (mT2 (List.mem_of_getElem? (i := 136) rfl)) rfl, WU_of (mT1 (List.mem_of_getElem? (i := 11) rfl)) rfl, ⟨by decide +kernel, by decide +kernel, by decide +kernel⟩, by decide⟩, WU_of (mT2 (List.mem_of_getElem? (i := 134) rfl)) rfl, WU_of (mT2 (List.mem_of_getElem? (i := 135) rfl)) rfl, _, _, rfl⟩
theorem ms_X10_204 : MS RX10 204 yX10_firstUntrue cX10_firstUntrue 4 ((Option.some Jvm.ClassFile.FieldType.int)) 2 := ⟨⟨WU_of (mT3 (List.mem_of_getElem? (i := 200) rfl)) rfl, WU_of (mT3 (List.mem_of_getElem? (i := 202) rfl)) rfl, WU_of (mT1 (List.mem_of_getElem? (i := 1) rfl)) rfl, ⟨by decide +kernel, by decide +kernel, by decide +kernel⟩, by decide⟩, WU_of (mT3 (List.mem_of_getElem? (i := 201) rfl)) rfl⟩
theorem mv_L_83 : MV RL 83 10 yX10_which cX10_which 9 ((Option.some Jvm.ClassFile.FieldType.int)) 2 := ⟨⟨WU_of (mT3 (List.mem_of_getElem? (i := 203) rfl)) rfl, WU_of (mT3 (List.mem_of_getElem? (i := 206) rfl)) rfl, WU_of (mT1 (List.mem_of_getElem? (i := 1) rfl)) rfl, ⟨by decide +kernel, by decide +kernel, by decide +kernel⟩, by decide⟩, WU_of (mT3 (List.mem_of_getElem? (i := 204) rfl)) rfl, WU_of (mT3 (List.mem_of_getElem? (i := 205) rfl)) rfl, _, _, rfl⟩
theorem mv_X10_208 : MV RX10 208 9 yX9_sets cX9_sets 1 ((Option.some Jvm.ClassFile.FieldType.int)) 0 := ⟨⟨WU_of (mT3 (List.mem_of_getElem? (i := 207) rfl)) rfl, WU_of (mT3 (List.mem_of_getElem? (i := 23) rfl)) rfl, WU_of (mT1 (List.mem_of_getElem? (i := 2) rfl)) rfl, ⟨by decide +kernel, by decide +kernel, by decide +kernel⟩, by decide⟩, WU_of (mT3 (List.mem_of_getElem? (i := 21) rfl)) rfl, WU_of (mT3 (List.mem_of_getElem? (i := 22) rfl)) rfl, _, _, rfl⟩
theorem mv_L_87 : MV RL 87 10 yX10_first cX10_first 3 ((Option.some Jvm.ClassFile.FieldType.int)) 1 := ⟨⟨WU_of (mT3 (List.mem_of_getElem? (i := 208) rfl)) rfl, WU_of (mT3 (List.mem_of_getElem? (i := 211) rfl)) rfl, WU_of (mT1 (List.mem_of_getElem? (i := 1) rfl)) rfl, ⟨by decide +kernel, by decide +kernel, by decide +kernel⟩, by decide⟩, WU_of (mT3 (List.mem_of_getElem? (i := 209) rfl)) rfl, WU_of (mT3 (List.mem_of_getElem? (i := 210) rfl)) rfl, _, _, rfl⟩
theorem mv_X10_211 : MV RX10 211 8 yX8_dearest cX8_dearest 3 ((Option.some Jvm.ClassFile.FieldType.int)) 0 := ⟨⟨WU_of (mT3 (List.mem_of_getElem? (i := 212) rfl)) rfl, WU_of (mT3 (List.mem_of_getElem? (i := 215) rfl)) rfl, WU_of (mT1 (List.mem_of_getElem? (i := 7) rfl)) rfl, ⟨by decide +kernel, by decide +kernel, by decide +kernel⟩, by decide⟩, WU_of (mT3 (List.mem_of_getElem? (i := 213) rfl)) rfl, WU_of (mT3 (List.mem_of_getElem? (i := 214) rfl)) rfl, _, _, rfl⟩
theorem mv_X10_214 : MV RX10 214 8 yX8_costOf cX8_costOf 2 ((Option.some Jvm.ClassFile.FieldType.int)) 1 := ⟨⟨WU_of (mT3 (List.mem_of_getElem? (i := 216) rfl)) rfl, WU_of (mT3 (List.mem_of_getElem? (i := 219) rfl)) rfl, WU_of (mT1 (List.mem_of_getElem? (i := 7) rfl)) rfl, ⟨by decide +kernel, by decide +kernel, by decide +kernel⟩, by decide⟩, WU_of (mT3 (List.mem_of_getElem? (i := 217) rfl)) rfl, WU_of (mT3 (List.mem_of_getElem? (i := 218) rfl)) rfl, _, _, rfl⟩
theorem mv_L_91 : MV RL 91 10 yX10_chain cX10_chain 2 ((Option.some Jvm.ClassFile.FieldType.int)) 1 := ⟨⟨WU_of (mT3 (List.mem_of_getElem? (i := 220) rfl)) rfl, WU_of (mT3 (List.mem_of_getElem? (i := 223) rfl)) rfl, WU_of (mT1 (List.mem_of_getElem? (i := 1) rfl)) rfl, ⟨by decide +kernel, by decide +kernel, by decide +kernel⟩, by decide⟩, WU_of (mT3 (List.mem_of_getElem? (i := 221) rfl)) rfl, WU_of (mT3 (List.mem_of_getElem? (i := 222) rfl)) rfl, _, _, rfl⟩
theorem mv_X10_217 : MV RX10 217 9 yX9_broughtBy cX9_broughtBy 5 ((Option.some Jvm.ClassFile.FieldType.int)) 1 := ⟨⟨WU_of (mT3 (List.mem_of_getElem? (i := 224) rfl)) rfl, WU_of (mT3 (List.mem_of_getElem? (i := 227) rfl)) rfl, WU_of (mT1 (List.mem_of_getElem? (i := 2) rfl)) rfl, ⟨by decide +kernel, by decide +kernel, by decide +kernel⟩, by decide⟩, WU_of (mT3 (List.mem_of_getElem? (i := 225) rfl)) rfl, WU_of (mT3 (List.mem_of_getElem? (i := 226) rfl)) rfl, _, _, rfl⟩
theorem ms_X10_220 : MS RX10 220 yJ6_bitCount_0f7a4 cJ6_bitCount_0f7a4 1 ((Option.some Jvm.ClassFile.FieldType.int)) 1 := ⟨⟨WU_of (mT3 (List.mem_of_getElem? (i := 228) rfl)) rfl, WU_of (mT3 (List.mem_of_getElem? (i := 119) rfl)) rfl, WU_of (mT1 (List.mem_of_getElem? (i := 14) rfl)) rfl, ⟨by decide +kernel, by decide +kernel, by decide +kernel⟩, by decide⟩, WU_of (mT3 (List.mem_of_getElem? (i := 118) rfl)) rfl⟩
theorem mv_L_95 : MV RL 95 10 yX10_drawn cX10_drawn 7 ((Option.some Jvm.ClassFile.FieldType.int)) 3 := ⟨⟨WU_of (mT3 (List.mem_of_getElem? (i := 229) rfl)) rfl, WU_of (mT3 (List.mem_of_getElem? (i := 232) rfl)) rfl, WU_of (mT1 (List.mem_of_getElem? (i := 1) rfl)) rfl, ⟨by decide +kernel, by decide +kernel, by decide +kernel⟩, by decide⟩, WU_of (mT3 (List.mem_of_getElem? (i := 230) rfl)) rfl, WU_of (mT3 (List.mem_of_getElem? (i := 231) rfl)) rfl, _, _, rfl⟩
theorem mv_X10_228 : MV RX10 228 2 yX2_forgottenOf cX2_forgottenOf 4 ((Option.some Jvm.ClassFile.FieldType.int)) 1 := ⟨⟨WU_of (mT3 (List.mem_of_getElem? (i := 233) rfl)) rfl, WU_of (mT3 (List.mem_of_getElem? (i := 236) rfl)) rfl, WU_of (mT1 (List.mem_of_getElem? (i := 8) rfl)) rfl, ⟨by decide +kernel, by decide +kernel, by decide +kernel⟩, by decide⟩, WU_of (mT3 (List.mem_of_getElem? (i := 234) rfl)) rfl, WU_of (mT3 (List.mem_of_getElem? (i := 235) rfl)) rfl, _, _, rfl⟩
theorem k_X2_20 : Cond.constant RX2 20 (1103515245) ∈ WU := WU_of (mT3 (List.mem_of_getElem? (i := 237) rfl)) rfl
theorem mv_X2_21 : MV RX2 21 9 yX9_value cX9_value 3 ((Option.some Jvm.ClassFile.FieldType.int)) 2 := ⟨⟨WU_of (mT3 (List.mem_of_getElem? (i := 238) rfl)) rfl, WU_of (mT2 (List.mem_of_getElem? (i := 160) rfl)) rfl, WU_of (mT1 (List.mem_of_getElem? (i := 2) rfl)) rfl, ⟨by decide +kernel, by decide +kernel, by decide +kernel⟩, by decide⟩, WU_of (mT2 (List.mem_of_getElem? (i := 158) rfl)) rfl, WU_of (mT2 (List.mem_of_getElem? (i := 159) rfl)) rfl, _, _, rfl⟩
theorem mv_L_99 : MV RL 99 10 yX10_lock cX10_lock 3 ((Option.some Jvm.ClassFile.FieldType.int)) 1 := ⟨⟨WU_of (mT3 (List.mem_of_getElem? (i := 239) rfl)) rfl, WU_of (mT4 (List.mem_of_getElem? (i := 2) rfl)) rfl, WU_of (mT1 (List.mem_of_getElem? (i := 1) rfl)) rfl, ⟨by decide +kernel, by decide +kernel, by decide +kernel⟩, by decide⟩, WU_of (mT4 (List.mem_of_getElem? (i := 0) rfl)) rfl, WU_of (mT4 (List.mem_of_getElem? (i := 1) rfl)) rfl, _, _, rfl⟩
theorem mv_X10_239 : MV RX10 239 3 yX3_beginWith cX3_beginWith 2 ((Option.none : Option Jvm.ClassFile.FieldType)) 1 := ⟨⟨WU_of (mT4 (List.mem_of_getElem? (i := 3) rfl)) rfl, WU_of (mT3 (List.mem_of_getElem? (i := 34) rfl)) rfl, WU_of (mT1 (List.mem_of_getElem? (i := 6) rfl)) rfl, ⟨by decide +kernel, by decide +kernel, by decide +kernel⟩, by decide⟩, WU_of (mT3 (List.mem_of_getElem? (i := 32) rfl)) rfl, WU_of (mT3 (List.mem_of_getElem? (i := 33) rfl)) rfl, _, _, rfl⟩
theorem mv_L_103 : MV RL 103 10 yX10_on cX10_on 1 ((Option.some Jvm.ClassFile.FieldType.int)) 0 := ⟨⟨WU_of (mT4 (List.mem_of_getElem? (i := 4) rfl)) rfl, WU_of (mT4 (List.mem_of_getElem? (i := 7) rfl)) rfl, WU_of (mT1 (List.mem_of_getElem? (i := 1) rfl)) rfl, ⟨by decide +kernel, by decide +kernel, by decide +kernel⟩, by decide⟩, WU_of (mT4 (List.mem_of_getElem? (i := 5) rfl)) rfl, WU_of (mT4 (List.mem_of_getElem? (i := 6) rfl)) rfl, _, _, rfl⟩
theorem mv_X10_242 : MV RX10 242 3 yX3_driveOn cX3_driveOn 3 ((Option.none : Option Jvm.ClassFile.FieldType)) 0 := ⟨⟨WU_of (mT4 (List.mem_of_getElem? (i := 8) rfl)) rfl, WU_of (mT3 (List.mem_of_getElem? (i := 38) rfl)) rfl, WU_of (mT1 (List.mem_of_getElem? (i := 6) rfl)) rfl, ⟨by decide +kernel, by decide +kernel, by decide +kernel⟩, by decide⟩, WU_of (mT3 (List.mem_of_getElem? (i := 36) rfl)) rfl, WU_of (mT3 (List.mem_of_getElem? (i := 37) rfl)) rfl, _, _, rfl⟩
theorem mv_L_107 : MV RL 107 10 yX10_led cX10_led 2 ((Option.some Jvm.ClassFile.FieldType.int)) 1 := ⟨⟨WU_of (mT4 (List.mem_of_getElem? (i := 9) rfl)) rfl, WU_of (mT4 (List.mem_of_getElem? (i := 12) rfl)) rfl, WU_of (mT1 (List.mem_of_getElem? (i := 1) rfl)) rfl, ⟨by decide +kernel, by decide +kernel, by decide +kernel⟩, by decide⟩, WU_of (mT4 (List.mem_of_getElem? (i := 10) rfl)) rfl, WU_of (mT4 (List.mem_of_getElem? (i := 11) rfl)) rfl, _, _, rfl⟩
theorem mv_L_111 : MV RL 111 10 yX10_image cX10_image 1 ((Option.some Jvm.ClassFile.FieldType.int)) 0 := ⟨⟨WU_of (mT4 (List.mem_of_getElem? (i := 13) rfl)) rfl, WU_of (mT4 (List.mem_of_getElem? (i := 16) rfl)) rfl, WU_of (mT1 (List.mem_of_getElem? (i := 1) rfl)) rfl, ⟨by decide +kernel, by decide +kernel, by decide +kernel⟩, by decide⟩, WU_of (mT4 (List.mem_of_getElem? (i := 14) rfl)) rfl, WU_of (mT4 (List.mem_of_getElem? (i := 15) rfl)) rfl, _, _, rfl⟩
theorem mv_X10_253 : MV RX10 253 4 yX4_keepImage cX4_keepImage 1 ((Option.none : Option Jvm.ClassFile.FieldType)) 0 := ⟨⟨WU_of (mT4 (List.mem_of_getElem? (i := 17) rfl)) rfl, WU_of (mT4 (List.mem_of_getElem? (i := 20) rfl)) rfl, WU_of (mT1 (List.mem_of_getElem? (i := 9) rfl)) rfl, ⟨by decide +kernel, by decide +kernel, by decide +kernel⟩, by decide⟩, WU_of (mT4 (List.mem_of_getElem? (i := 18) rfl)) rfl, WU_of (mT4 (List.mem_of_getElem? (i := 19) rfl)) rfl, _, _, rfl⟩
theorem mv_X4_21 : MV RX4 21 3 yX3_becomeLike cX3_becomeLike 2 ((Option.none : Option Jvm.ClassFile.FieldType)) 1 := ⟨⟨WU_of (mT4 (List.mem_of_getElem? (i := 21) rfl)) rfl, WU_of (mT4 (List.mem_of_getElem? (i := 24) rfl)) rfl, WU_of (mT1 (List.mem_of_getElem? (i := 6) rfl)) rfl, ⟨by decide +kernel, by decide +kernel, by decide +kernel⟩, by decide⟩, WU_of (mT4 (List.mem_of_getElem? (i := 22) rfl)) rfl, WU_of (mT4 (List.mem_of_getElem? (i := 23) rfl)) rfl, _, _, rfl⟩
theorem mv_L_115 : MV RL 115 10 yX10_back cX10_back 1 ((Option.some Jvm.ClassFile.FieldType.int)) 0 := ⟨⟨WU_of (mT4 (List.mem_of_getElem? (i := 25) rfl)) rfl, WU_of (mT4 (List.mem_of_getElem? (i := 28) rfl)) rfl, WU_of (mT1 (List.mem_of_getElem? (i := 1) rfl)) rfl, ⟨by decide +kernel, by decide +kernel, by decide +kernel⟩, by decide⟩, WU_of (mT4 (List.mem_of_getElem? (i := 26) rfl)) rfl, WU_of (mT4 (List.mem_of_getElem? (i := 27) rfl)) rfl, _, _, rfl⟩
theorem mv_X10_259 : MV RX10 259 4 yX4_layBack cX4_layBack 1 ((Option.none : Option Jvm.ClassFile.FieldType)) 0 := ⟨⟨WU_of (mT4 (List.mem_of_getElem? (i := 29) rfl)) rfl, WU_of (mT4 (List.mem_of_getElem? (i := 32) rfl)) rfl, WU_of (mT1 (List.mem_of_getElem? (i := 9) rfl)) rfl, ⟨by decide +kernel, by decide +kernel, by decide +kernel⟩, by decide⟩, WU_of (mT4 (List.mem_of_getElem? (i := 30) rfl)) rfl, WU_of (mT4 (List.mem_of_getElem? (i := 31) rfl)) rfl, _, _, rfl⟩
theorem mv_L_119 : MV RL 119 10 yX10_undo cX10_undo 1 ((Option.some Jvm.ClassFile.FieldType.int)) 0 := ⟨⟨WU_of (mT4 (List.mem_of_getElem? (i := 33) rfl)) rfl, WU_of (mT4 (List.mem_of_getElem? (i := 36) rfl)) rfl, WU_of (mT1 (List.mem_of_getElem? (i := 1) rfl)) rfl, ⟨by decide +kernel, by decide +kernel, by decide +kernel⟩, by decide⟩, WU_of (mT4 (List.mem_of_getElem? (i := 34) rfl)) rfl, WU_of (mT4 (List.mem_of_getElem? (i := 35) rfl)) rfl, _, _, rfl⟩
theorem mv_X10_262 : MV RX10 262 1 yX1_undoIn cX1_undoIn 2 ((Option.some Jvm.ClassFile.FieldType.boolean)) 1 := ⟨⟨WU_of (mT4 (List.mem_of_getElem? (i := 37) rfl)) rfl, WU_of (mT4 (List.mem_of_getElem? (i := 40) rfl)) rfl, WU_of (mT1 (List.mem_of_getElem? (i := 4) rfl)) rfl, ⟨by decide +kernel, by decide +kernel, by decide +kernel⟩, by decide⟩, WU_of (mT4 (List.mem_of_getElem? (i := 38) rfl)) rfl, WU_of (mT4 (List.mem_of_getElem? (i := 39) rfl)) rfl, _, _, rfl⟩
theorem mv_X1_32 : MV RX1 32 9 yX9_become cX9_become 4 ((Option.none : Option Jvm.ClassFile.FieldType)) 3 := ⟨⟨WU_of (mT4 (List.mem_of_getElem? (i := 41) rfl)) rfl, WU_of (mT2 (List.mem_of_getElem? (i := 124) rfl)) rfl, WU_of (mT1 (List.mem_of_getElem? (i := 2) rfl)) rfl, ⟨by decide +kernel, by decide +kernel, by decide +kernel⟩, by decide⟩, WU_of (mT2 (List.mem_of_getElem? (i := 122) rfl)) rfl, WU_of (mT2 (List.mem_of_getElem? (i := 123) rfl)) rfl, _, _, rfl⟩
theorem mv_L_123 : MV RL 123 10 yX10_redo cX10_redo 1 ((Option.some Jvm.ClassFile.FieldType.int)) 0 := ⟨⟨WU_of (mT4 (List.mem_of_getElem? (i := 42) rfl)) rfl, WU_of (mT4 (List.mem_of_getElem? (i := 45) rfl)) rfl, WU_of (mT1 (List.mem_of_getElem? (i := 1) rfl)) rfl, ⟨by decide +kernel, by decide +kernel, by decide +kernel⟩, by decide⟩, WU_of (mT4 (List.mem_of_getElem? (i := 43) rfl)) rfl, WU_of (mT4 (List.mem_of_getElem? (i := 44) rfl)) rfl, _, _, rfl⟩
theorem mv_X10_269 : MV RX10 269 1 yX1_redoIn cX1_redoIn 2 ((Option.some Jvm.ClassFile.FieldType.boolean)) 1 := ⟨⟨WU_of (mT4 (List.mem_of_getElem? (i := 46) rfl)) rfl, WU_of (mT4 (List.mem_of_getElem? (i := 49) rfl)) rfl, WU_of (mT1 (List.mem_of_getElem? (i := 4) rfl)) rfl, ⟨by decide +kernel, by decide +kernel, by decide +kernel⟩, by decide⟩, WU_of (mT4 (List.mem_of_getElem? (i := 47) rfl)) rfl, WU_of (mT4 (List.mem_of_getElem? (i := 48) rfl)) rfl, _, _, rfl⟩
theorem mv_L_127 : MV RL 127 10 yX10_body cX10_body 2 ((Option.some Jvm.ClassFile.FieldType.int)) 1 := ⟨⟨WU_of (mT4 (List.mem_of_getElem? (i := 50) rfl)) rfl, WU_of (mT4 (List.mem_of_getElem? (i := 53) rfl)) rfl, WU_of (mT1 (List.mem_of_getElem? (i := 1) rfl)) rfl, ⟨by decide +kernel, by decide +kernel, by decide +kernel⟩, by decide⟩, WU_of (mT4 (List.mem_of_getElem? (i := 51) rfl)) rfl, WU_of (mT4 (List.mem_of_getElem? (i := 52) rfl)) rfl, _, _, rfl⟩
theorem mv_X10_275 : MV RX10 275 0 yX0_add cX0_add 2 ((Option.some Jvm.ClassFile.FieldType.int)) 1 := ⟨⟨WU_of (mT4 (List.mem_of_getElem? (i := 54) rfl)) rfl, WU_of (mT4 (List.mem_of_getElem? (i := 57) rfl)) rfl, WU_of (mT1 (List.mem_of_getElem? (i := 10) rfl)) rfl, ⟨by decide +kernel, by decide +kernel, by decide +kernel⟩, by decide⟩, WU_of (mT4 (List.mem_of_getElem? (i := 55) rfl)) rfl, WU_of (mT4 (List.mem_of_getElem? (i := 56) rfl)) rfl, _, _, rfl⟩
theorem mv_L_131 : MV RL 131 10 yX10_act cX10_act 4 ((Option.some Jvm.ClassFile.FieldType.int)) 3 := ⟨⟨WU_of (mT4 (List.mem_of_getElem? (i := 58) rfl)) rfl, WU_of (mT4 (List.mem_of_getElem? (i := 61) rfl)) rfl, WU_of (mT1 (List.mem_of_getElem? (i := 1) rfl)) rfl, ⟨by decide +kernel, by decide +kernel, by decide +kernel⟩, by decide⟩, WU_of (mT4 (List.mem_of_getElem? (i := 59) rfl)) rfl, WU_of (mT4 (List.mem_of_getElem? (i := 60) rfl)) rfl, _, _, rfl⟩
theorem mv_X10_280 : MV RX10 280 0 yX0_has cX0_has 2 ((Option.some Jvm.ClassFile.FieldType.boolean)) 1 := ⟨⟨WU_of (mT4 (List.mem_of_getElem? (i := 62) rfl)) rfl, WU_of (mT4 (List.mem_of_getElem? (i := 65) rfl)) rfl, WU_of (mT1 (List.mem_of_getElem? (i := 10) rfl)) rfl, ⟨by decide +kernel, by decide +kernel, by decide +kernel⟩, by decide⟩, WU_of (mT4 (List.mem_of_getElem? (i := 63) rfl)) rfl, WU_of (mT4 (List.mem_of_getElem? (i := 64) rfl)) rfl, _, _, rfl⟩
theorem mv_X10_282 : MV RX10 282 0 yX0_kindOf cX0_kindOf 2 ((Option.some Jvm.ClassFile.FieldType.int)) 1 := ⟨⟨WU_of (mT4 (List.mem_of_getElem? (i := 66) rfl)) rfl, WU_of (mT4 (List.mem_of_getElem? (i := 69) rfl)) rfl, WU_of (mT1 (List.mem_of_getElem? (i := 10) rfl)) rfl, ⟨by decide +kernel, by decide +kernel, by decide +kernel⟩, by decide⟩, WU_of (mT4 (List.mem_of_getElem? (i := 67) rfl)) rfl, WU_of (mT4 (List.mem_of_getElem? (i := 68) rfl)) rfl, _, _, rfl⟩
theorem mv_X0_22 : MV RX0 22 0 yX0_has cX0_has 2 ((Option.some Jvm.ClassFile.FieldType.boolean)) 1 := ⟨⟨WU_of (mT4 (List.mem_of_getElem? (i := 70) rfl)) rfl, WU_of (mT4 (List.mem_of_getElem? (i := 65) rfl)) rfl, WU_of (mT1 (List.mem_of_getElem? (i := 10) rfl)) rfl, ⟨by decide +kernel, by decide +kernel, by decide +kernel⟩, by decide⟩, WU_of (mT4 (List.mem_of_getElem? (i := 63) rfl)) rfl, WU_of (mT4 (List.mem_of_getElem? (i := 64) rfl)) rfl, _, _, rfl⟩
theorem mv_X10_285 : MV RX10 285 0 yX0_perform cX0_perform 11 ((Option.some Jvm.ClassFile.FieldType.int)) 5 := ⟨⟨WU_of (mT4 (List.mem_of_getElem? (i := 71) rfl)) rfl, WU_of (mT4 (List.mem_of_getElem? (i := 74) rfl)) rfl, WU_of (mT1 (List.mem_of_getElem? (i := 10) rfl)) rfl, ⟨by decide +kernel, by decide +kernel, by decide +kernel⟩, by decide⟩, WU_of (mT4 (List.mem_of_getElem? (i := 72) rfl)) rfl, WU_of (mT4 (List.mem_of_getElem? (i := 73) rfl)) rfl, _, _, rfl⟩
theorem ms_X0_43 : MS RX0 43 yX0_nearest cX0_nearest 4 ((Option.some Jvm.ClassFile.FieldType.int)) 2 := ⟨⟨WU_of (mT4 (List.mem_of_getElem? (i := 75) rfl)) rfl, WU_of (mT4 (List.mem_of_getElem? (i := 77) rfl)) rfl, WU_of (mT1 (List.mem_of_getElem? (i := 10) rfl)) rfl, ⟨by decide +kernel, by decide +kernel, by decide +kernel⟩, by decide⟩, WU_of (mT4 (List.mem_of_getElem? (i := 76) rfl)) rfl⟩
theorem ms_X0_36 : MS RX0 36 yX0_ownBody cX0_ownBody 3 ((Option.some Jvm.ClassFile.FieldType.int)) 2 := ⟨⟨WU_of (mT4 (List.mem_of_getElem? (i := 78) rfl)) rfl, WU_of (mT4 (List.mem_of_getElem? (i := 80) rfl)) rfl, WU_of (mT1 (List.mem_of_getElem? (i := 10) rfl)) rfl, ⟨by decide +kernel, by decide +kernel, by decide +kernel⟩, by decide⟩, WU_of (mT4 (List.mem_of_getElem? (i := 79) rfl)) rfl⟩
theorem st_X0_33 : ST RX0 33 "BackHouse$Acts" "OWN" := WU_of (mT4 (List.mem_of_getElem? (i := 81) rfl)) rfl
theorem ms_X0_26 : MS RX0 26 yX0_aboveOf cX0_aboveOf 1 ((Option.some Jvm.ClassFile.FieldType.int)) 1 := ⟨⟨WU_of (mT4 (List.mem_of_getElem? (i := 83) rfl)) rfl, WU_of (mT4 (List.mem_of_getElem? (i := 85) rfl)) rfl, WU_of (mT1 (List.mem_of_getElem? (i := 10) rfl)) rfl, ⟨by decide +kernel, by decide +kernel, by decide +kernel⟩, by decide⟩, WU_of (mT4 (List.mem_of_getElem? (i := 84) rfl)) rfl⟩
theorem st_X0_30 : ST RX0 30 "BackHouse$Acts" "ABOVE" := WU_of (mT4 (List.mem_of_getElem? (i := 86) rfl)) rfl
theorem mv_X0_46 : MV RX0 46 0 yX0_kindOf cX0_kindOf 2 ((Option.some Jvm.ClassFile.FieldType.int)) 1 := ⟨⟨WU_of (mT4 (List.mem_of_getElem? (i := 88) rfl)) rfl, WU_of (mT4 (List.mem_of_getElem? (i := 69) rfl)) rfl, WU_of (mT1 (List.mem_of_getElem? (i := 10) rfl)) rfl, ⟨by decide +kernel, by decide +kernel, by decide +kernel⟩, by decide⟩, WU_of (mT4 (List.mem_of_getElem? (i := 67) rfl)) rfl, WU_of (mT4 (List.mem_of_getElem? (i := 68) rfl)) rfl, _, _, rfl⟩
theorem mv_X0_49 : MV RX0 49 0 yX0_note cX0_note 2 ((Option.none : Option Jvm.ClassFile.FieldType)) 1 := ⟨⟨WU_of (mT4 (List.mem_of_getElem? (i := 89) rfl)) rfl, WU_of (mT4 (List.mem_of_getElem? (i := 92) rfl)) rfl, WU_of (mT1 (List.mem_of_getElem? (i := 10) rfl)) rfl, ⟨by decide +kernel, by decide +kernel, by decide +kernel⟩, by decide⟩, WU_of (mT4 (List.mem_of_getElem? (i := 91) rfl)) rfl, WU_of (mP2 (List.mem_of_getElem? (i := 6) rfl)) rfl, _, _, rfl⟩
theorem mv_X0_53 : MV RX0 53 0 yX0_perform cX0_perform 11 ((Option.some Jvm.ClassFile.FieldType.int)) 5 := ⟨⟨WU_of (mT4 (List.mem_of_getElem? (i := 93) rfl)) rfl, WU_of (mT4 (List.mem_of_getElem? (i := 74) rfl)) rfl, WU_of (mT1 (List.mem_of_getElem? (i := 10) rfl)) rfl, ⟨by decide +kernel, by decide +kernel, by decide +kernel⟩, by decide⟩, WU_of (mT4 (List.mem_of_getElem? (i := 72) rfl)) rfl, WU_of (mT4 (List.mem_of_getElem? (i := 73) rfl)) rfl, _, _, rfl⟩
theorem mv_L_135 : MV RL 135 10 yX10_trace cX10_trace 2 ((Option.some Jvm.ClassFile.FieldType.int)) 1 := ⟨⟨WU_of (mT4 (List.mem_of_getElem? (i := 94) rfl)) rfl, WU_of (mT4 (List.mem_of_getElem? (i := 97) rfl)) rfl, WU_of (mT1 (List.mem_of_getElem? (i := 1) rfl)) rfl, ⟨by decide +kernel, by decide +kernel, by decide +kernel⟩, by decide⟩, WU_of (mT4 (List.mem_of_getElem? (i := 95) rfl)) rfl, WU_of (mT4 (List.mem_of_getElem? (i := 96) rfl)) rfl, _, _, rfl⟩
theorem mv_L_139 : MV RL 139 10 yX10_keep cX10_keep 4 ((Option.some Jvm.ClassFile.FieldType.int)) 2 := ⟨⟨WU_of (mT4 (List.mem_of_getElem? (i := 98) rfl)) rfl, WU_of (mT4 (List.mem_of_getElem? (i := 101) rfl)) rfl, WU_of (mT1 (List.mem_of_getElem? (i := 1) rfl)) rfl, ⟨by decide +kernel, by decide +kernel, by decide +kernel⟩, by decide⟩, WU_of (mT4 (List.mem_of_getElem? (i := 99) rfl)) rfl, WU_of (mT4 (List.mem_of_getElem? (i := 100) rfl)) rfl, _, _, rfl⟩
theorem mv_L_143 : MV RL 143 10 yX10_row cX10_row 5 ((Option.some Jvm.ClassFile.FieldType.int)) 3 := ⟨⟨WU_of (mT4 (List.mem_of_getElem? (i := 102) rfl)) rfl, WU_of (mT4 (List.mem_of_getElem? (i := 105) rfl)) rfl, WU_of (mT1 (List.mem_of_getElem? (i := 1) rfl)) rfl, ⟨by decide +kernel, by decide +kernel, by decide +kernel⟩, by decide⟩, WU_of (mT4 (List.mem_of_getElem? (i := 103) rfl)) rfl, WU_of (mT4 (List.mem_of_getElem? (i := 104) rfl)) rfl, _, _, rfl⟩
theorem mv_X10_295 : MV RX10 295 7 yX7_becomeRow cX7_becomeRow 4 ((Option.none : Option Jvm.ClassFile.FieldType)) 2 := ⟨⟨WU_of (mT4 (List.mem_of_getElem? (i := 106) rfl)) rfl, WU_of (mT4 (List.mem_of_getElem? (i := 109) rfl)) rfl, WU_of (mT1 (List.mem_of_getElem? (i := 11) rfl)) rfl, ⟨by decide +kernel, by decide +kernel, by decide +kernel⟩, by decide⟩, WU_of (mT4 (List.mem_of_getElem? (i := 107) rfl)) rfl, WU_of (mT4 (List.mem_of_getElem? (i := 108) rfl)) rfl, _, _, rfl⟩
theorem mv_L_149 : MV RL 149 10 yX10_put cX10_put 7 ((Option.some Jvm.ClassFile.FieldType.int)) 3 := ⟨⟨WU_of (mT4 (List.mem_of_getElem? (i := 110) rfl)) rfl, WU_of (mT4 (List.mem_of_getElem? (i := 113) rfl)) rfl, WU_of (mT1 (List.mem_of_getElem? (i := 1) rfl)) rfl, ⟨by decide +kernel, by decide +kernel, by decide +kernel⟩, by decide⟩, WU_of (mT4 (List.mem_of_getElem? (i := 111) rfl)) rfl, WU_of (mT4 (List.mem_of_getElem? (i := 112) rfl)) rfl, _, _, rfl⟩
theorem mv_X10_298 : MV RX10 298 7 yX7_refusalOfPlace cX7_refusalOfPlace 2 ((Option.some Jvm.ClassFile.FieldType.int)) 1 := ⟨⟨WU_of (mT4 (List.mem_of_getElem? (i := 114) rfl)) rfl, WU_of (mT4 (List.mem_of_getElem? (i := 117) rfl)) rfl, WU_of (mT1 (List.mem_of_getElem? (i := 11) rfl)) rfl, ⟨by decide +kernel, by decide +kernel, by decide +kernel⟩, by decide⟩, WU_of (mT4 (List.mem_of_getElem? (i := 115) rfl)) rfl, WU_of (mT4 (List.mem_of_getElem? (i := 116) rfl)) rfl, _, _, rfl⟩
theorem mv_X7_29 : MV RX7 29 7 yX7_hasPlaces cX7_hasPlaces 3 ((Option.some Jvm.ClassFile.FieldType.boolean)) 2 := ⟨⟨WU_of (mT4 (List.mem_of_getElem? (i := 118) rfl)) rfl, WU_of (mT2 (List.mem_of_getElem? (i := 144) rfl)) rfl, WU_of (mT1 (List.mem_of_getElem? (i := 11) rfl)) rfl, ⟨by decide +kernel, by decide +kernel, by decide +kernel⟩, by decide⟩, WU_of (mT2 (List.mem_of_getElem? (i := 142) rfl)) rfl, WU_of (mT2 (List.mem_of_getElem? (i := 143) rfl)) rfl, _, _, rfl⟩
theorem mv_X10_301 : MV RX10 301 7 yX7_store cX7_store 4 ((Option.none : Option Jvm.ClassFile.FieldType)) 2 := ⟨⟨WU_of (mT4 (List.mem_of_getElem? (i := 119) rfl)) rfl, WU_of (mT4 (List.mem_of_getElem? (i := 122) rfl)) rfl, WU_of (mT1 (List.mem_of_getElem? (i := 11) rfl)) rfl, ⟨by decide +kernel, by decide +kernel, by decide +kernel⟩, by decide⟩, WU_of (mT4 (List.mem_of_getElem? (i := 120) rfl)) rfl, WU_of (mT4 (List.mem_of_getElem? (i := 121) rfl)) rfl, _, _, rfl⟩
theorem mv_X7_33 : MV RX7 33 7 yX7_lowestBits cX7_lowestBits 3 ((Option.some Jvm.ClassFile.FieldType.long)) 1 := ⟨⟨WU_of (mT4 (List.mem_of_getElem? (i := 123) rfl)) rfl, WU_of (mT4 (List.mem_of_getElem? (i := 126) rfl)) rfl, WU_of (mT1 (List.mem_of_getElem? (i := 11) rfl)) rfl, ⟨by decide +kernel, by decide +kernel, by decide +kernel⟩, by decide⟩, WU_of (mT4 (List.mem_of_getElem? (i := 125) rfl)) rfl, WU_of (mP2 (List.mem_of_getElem? (i := 7) rfl)) rfl, _, _, rfl⟩
theorem mv_L_154 : MV RL 154 10 yX10_element cX10_element 4 ((Option.some Jvm.ClassFile.FieldType.long)) 2 := ⟨⟨WU_of (mT4 (List.mem_of_getElem? (i := 127) rfl)) rfl, WU_of (mT4 (List.mem_of_getElem? (i := 130) rfl)) rfl, WU_of (mT1 (List.mem_of_getElem? (i := 1) rfl)) rfl, ⟨by decide +kernel, by decide +kernel, by decide +kernel⟩, by decide⟩, WU_of (mT4 (List.mem_of_getElem? (i := 128) rfl)) rfl, WU_of (mT4 (List.mem_of_getElem? (i := 129) rfl)) rfl, _, _, rfl⟩
theorem mv_L_158 : MV RL 158 10 yX10_shift cX10_shift 8 ((Option.some Jvm.ClassFile.FieldType.int)) 5 := ⟨⟨WU_of (mT4 (List.mem_of_getElem? (i := 131) rfl)) rfl, WU_of (mT4 (List.mem_of_getElem? (i := 134) rfl)) rfl, WU_of (mT1 (List.mem_of_getElem? (i := 1) rfl)) rfl, ⟨by decide +kernel, by decide +kernel, by decide +kernel⟩, by decide⟩, WU_of (mT4 (List.mem_of_getElem? (i := 132) rfl)) rfl, WU_of (mT4 (List.mem_of_getElem? (i := 133) rfl)) rfl, _, _, rfl⟩
theorem mv_L_163 : MV RL 163 10 yX10_taken cX10_taken 5 ((Option.some Jvm.ClassFile.FieldType.int)) 2 := ⟨⟨WU_of (mT4 (List.mem_of_getElem? (i := 138) rfl)) rfl, WU_of (mT4 (List.mem_of_getElem? (i := 141) rfl)) rfl, WU_of (mT1 (List.mem_of_getElem? (i := 1) rfl)) rfl, ⟨by decide +kernel, by decide +kernel, by decide +kernel⟩, by decide⟩, WU_of (mT4 (List.mem_of_getElem? (i := 139) rfl)) rfl, WU_of (mT4 (List.mem_of_getElem? (i := 140) rfl)) rfl, _, _, rfl⟩
theorem ms_X10_324 : MS RX10 324 yX0_isUnder cX0_isUnder 4 ((Option.some Jvm.ClassFile.FieldType.boolean)) 2 := ⟨⟨WU_of (mT4 (List.mem_of_getElem? (i := 142) rfl)) rfl, WU_of (mT4 (List.mem_of_getElem? (i := 144) rfl)) rfl, WU_of (mT1 (List.mem_of_getElem? (i := 10) rfl)) rfl, ⟨by decide +kernel, by decide +kernel, by decide +kernel⟩, by decide⟩, WU_of (mT4 (List.mem_of_getElem? (i := 143) rfl)) rfl⟩
theorem mv_L_167 : MV RL 167 10 yX10_count cX10_count 2 ((Option.some Jvm.ClassFile.FieldType.int)) 1 := ⟨⟨WU_of (mT4 (List.mem_of_getElem? (i := 145) rfl)) rfl, WU_of (mT4 (List.mem_of_getElem? (i := 148) rfl)) rfl, WU_of (mT1 (List.mem_of_getElem? (i := 1) rfl)) rfl, ⟨by decide +kernel, by decide +kernel, by decide +kernel⟩, by decide⟩, WU_of (mT4 (List.mem_of_getElem? (i := 146) rfl)) rfl, WU_of (mT4 (List.mem_of_getElem? (i := 147) rfl)) rfl, _, _, rfl⟩
theorem fw_X11_115 : FLw RX11 115 11 1 (.int) := ⟨_, _, _, _, kc11, by decide, WU_of (mT4 (List.mem_of_getElem? (i := 155) rfl)) rfl, tyX11_ok 1 (by decide), rfl⟩
theorem f_X11_115 : FL RX11 115 11 1 (.int) := (fw_X11_115).r
theorem f_X11_9 : FL RX11 9 11 2 (.array .int) := ⟨_, _, _, _, kc11, by decide, WU_of (mT4 (List.mem_of_getElem? (i := 156) rfl)) rfl, tyX11_ok 2 (by decide)⟩
theorem f_X11_15 : FL RX11 15 11 3 (.array .int) := ⟨_, _, _, _, kc11, by decide, WU_of (mT4 (List.mem_of_getElem? (i := 157) rfl)) rfl, tyX11_ok 3 (by decide)⟩
theorem f_X11_18 : FL RX11 18 11 4 (.array .int) := ⟨_, _, _, _, kc11, by decide, WU_of (mT4 (List.mem_of_getElem? (i := 158) rfl)) rfl, tyX11_ok 4 (by decide)⟩
theorem f_X11_21 : FL RX11 21 11 5 (.array .int) := ⟨_, _, _, _, kc11, by decide, WU_of (mT4 (List.mem_of_getElem? (i := 159) rfl)) rfl, tyX11_ok 5 (by decide)⟩
theorem f_X11_24 : FL RX11 24 11 6 (.array .int) := ⟨_, _, _, _, kc11, by decide, WU_of (mT4 (List.mem_of_getElem? (i := 160) rfl)) rfl, tyX11_ok 6 (by decide)⟩
theorem f_X11_27 : FL RX11 27 11 7 (.array .int) := ⟨_, _, _, _, kc11, by decide, WU_of (mT4 (List.mem_of_getElem? (i := 161) rfl)) rfl, tyX11_ok 7 (by decide)⟩
theorem f_X11_30 : FL RX11 30 11 8 (.array .int) := ⟨_, _, _, _, kc11, by decide, WU_of (mT4 (List.mem_of_getElem? (i := 162) rfl)) rfl, tyX11_ok 8 (by decide)⟩
theorem fw_X11_33 : FLw RX11 33 11 9 (.int) := ⟨_, _, _, _, kc11, by decide, WU_of (mT4 (List.mem_of_getElem? (i := 163) rfl)) rfl, tyX11_ok 9 (by decide), rfl⟩
theorem f_X11_33 : FL RX11 33 11 9 (.int) := (fw_X11_33).r
theorem fw_X11_142 : FLw RX11 142 11 10 (.int) := ⟨_, _, _, _, kc11, by decide, WU_of (mT4 (List.mem_of_getElem? (i := 164) rfl)) rfl, tyX11_ok 10 (by decide), rfl⟩
theorem f_X11_142 : FL RX11 142 11 10 (.int) := (fw_X11_142).r
theorem fw_X11_139 : FLw RX11 139 11 11 (.int) := ⟨_, _, _, _, kc11, by decide, WU_of (mT4 (List.mem_of_getElem? (i := 165) rfl)) rfl, tyX11_ok 11 (by decide), rfl⟩
theorem f_X11_139 : FL RX11 139 11 11 (.int) := (fw_X11_139).r
theorem f_X11_37 : FL RX11 37 11 12 (.array .int) := ⟨_, _, _, _, kc11, by decide, WU_of (mT4 (List.mem_of_getElem? (i := 166) rfl)) rfl, tyX11_ok 12 (by decide)⟩
theorem f_X11_40 : FL RX11 40 11 13 (.array .int) := ⟨_, _, _, _, kc11, by decide, WU_of (mT4 (List.mem_of_getElem? (i := 167) rfl)) rfl, tyX11_ok 13 (by decide)⟩
theorem f_X11_43 : FL RX11 43 11 14 (.array .int) := ⟨_, _, _, _, kc11, by decide, WU_of (mT4 (List.mem_of_getElem? (i := 168) rfl)) rfl, tyX11_ok 14 (by decide)⟩
theorem f_X11_46 : FL RX11 46 11 15 (.array .int) := ⟨_, _, _, _, kc11, by decide, WU_of (mT4 (List.mem_of_getElem? (i := 169) rfl)) rfl, tyX11_ok 15 (by decide)⟩
theorem f_X11_49 : FL RX11 49 11 16 (.array .byte) := ⟨_, _, _, _, kc11, by decide, WU_of (mT4 (List.mem_of_getElem? (i := 170) rfl)) rfl, tyX11_ok 16 (by decide)⟩
theorem fw_X11_163 : FLw RX11 163 11 17 (.int) := ⟨_, _, _, _, kc11, by decide, WU_of (mT4 (List.mem_of_getElem? (i := 171) rfl)) rfl, tyX11_ok 17 (by decide), rfl⟩
theorem f_X11_163 : FL RX11 163 11 17 (.int) := (fw_X11_163).r
theorem fw_X11_166 : FLw RX11 166 11 18 (.int) := ⟨_, _, _, _, kc11, by decide, WU_of (mT4 (List.mem_of_getElem? (i := 172) rfl)) rfl, tyX11_ok 18 (by decide), rfl⟩
theorem f_X11_166 : FL RX11 166 11 18 (.int) := (fw_X11_166).r
theorem fw_X11_169 : FLw RX11 169 11 19 (.int) := ⟨_, _, _, _, kc11, by decide, WU_of (mT4 (List.mem_of_getElem? (i := 173) rfl)) rfl, tyX11_ok 19 (by decide), rfl⟩
theorem f_X11_169 : FL RX11 169 11 19 (.int) := (fw_X11_169).r
theorem fw_X11_175 : FLw RX11 175 11 20 (.int) := ⟨_, _, _, _, kc11, by decide, WU_of (mT4 (List.mem_of_getElem? (i := 174) rfl)) rfl, tyX11_ok 20 (by decide), rfl⟩
theorem f_X11_175 : FL RX11 175 11 20 (.int) := (fw_X11_175).r
theorem fw_X11_172 : FLw RX11 172 11 21 (.int) := ⟨_, _, _, _, kc11, by decide, WU_of (mT4 (List.mem_of_getElem? (i := 175) rfl)) rfl, tyX11_ok 21 (by decide), rfl⟩
theorem f_X11_172 : FL RX11 172 11 21 (.int) := (fw_X11_172).r
theorem f_X11_53 : FL RX11 53 11 22 (.array .byte) := ⟨_, _, _, _, kc11, by decide, WU_of (mT4 (List.mem_of_getElem? (i := 176) rfl)) rfl, tyX11_ok 22 (by decide)⟩
theorem f_X11_56 : FL RX11 56 11 23 (.array .int) := ⟨_, _, _, _, kc11, by decide, WU_of (mT4 (List.mem_of_getElem? (i := 177) rfl)) rfl, tyX11_ok 23 (by decide)⟩
theorem f_X11_59 : FL RX11 59 11 24 (.array .int) := ⟨_, _, _, _, kc11, by decide, WU_of (mT4 (List.mem_of_getElem? (i := 178) rfl)) rfl, tyX11_ok 24 (by decide)⟩
theorem f_X11_62 : FL RX11 62 11 25 (.array .short) := ⟨_, _, _, _, kc11, by decide, WU_of (mT4 (List.mem_of_getElem? (i := 179) rfl)) rfl, tyX11_ok 25 (by decide)⟩
theorem f_X11_66 : FL RX11 66 11 26 (.array .short) := ⟨_, _, _, _, kc11, by decide, WU_of (mT4 (List.mem_of_getElem? (i := 180) rfl)) rfl, tyX11_ok 26 (by decide)⟩
theorem f_X11_69 : FL RX11 69 11 27 (.array .int) := ⟨_, _, _, _, kc11, by decide, WU_of (mT4 (List.mem_of_getElem? (i := 181) rfl)) rfl, tyX11_ok 27 (by decide)⟩
theorem f_X11_72 : FL RX11 72 11 28 (.array .int) := ⟨_, _, _, _, kc11, by decide, WU_of (mT4 (List.mem_of_getElem? (i := 182) rfl)) rfl, tyX11_ok 28 (by decide)⟩
theorem fw_X11_230 : FLw RX11 230 11 29 (.boolean) := ⟨_, _, _, _, kc11, by decide, WU_of (mT4 (List.mem_of_getElem? (i := 183) rfl)) rfl, tyX11_ok 29 (by decide), rfl⟩
theorem f_X11_230 : FL RX11 230 11 29 (.boolean) := (fw_X11_230).r
theorem fw_X11_237 : FLw RX11 237 11 30 (.int) := ⟨_, _, _, _, kc11, by decide, WU_of (mT4 (List.mem_of_getElem? (i := 184) rfl)) rfl, tyX11_ok 30 (by decide), rfl⟩
theorem f_X11_237 : FL RX11 237 11 30 (.int) := (fw_X11_237).r
theorem fw_X11_240 : FLw RX11 240 11 31 (.int) := ⟨_, _, _, _, kc11, by decide, WU_of (mT4 (List.mem_of_getElem? (i := 185) rfl)) rfl, tyX11_ok 31 (by decide), rfl⟩
theorem f_X11_240 : FL RX11 240 11 31 (.int) := (fw_X11_240).r
theorem fw_X11_243 : FLw RX11 243 11 32 (.int) := ⟨_, _, _, _, kc11, by decide, WU_of (mT4 (List.mem_of_getElem? (i := 186) rfl)) rfl, tyX11_ok 32 (by decide), rfl⟩
theorem f_X11_243 : FL RX11 243 11 32 (.int) := (fw_X11_243).r
theorem fw_X11_246 : FLw RX11 246 11 33 (.int) := ⟨_, _, _, _, kc11, by decide, WU_of (mT4 (List.mem_of_getElem? (i := 187) rfl)) rfl, tyX11_ok 33 (by decide), rfl⟩
theorem f_X11_246 : FL RX11 246 11 33 (.int) := (fw_X11_246).r
theorem fw_X11_249 : FLw RX11 249 11 34 (.int) := ⟨_, _, _, _, kc11, by decide, WU_of (mT4 (List.mem_of_getElem? (i := 188) rfl)) rfl, tyX11_ok 34 (by decide), rfl⟩
theorem f_X11_249 : FL RX11 249 11 34 (.int) := (fw_X11_249).r
theorem fw_X11_252 : FLw RX11 252 11 35 (.int) := ⟨_, _, _, _, kc11, by decide, WU_of (mT4 (List.mem_of_getElem? (i := 189) rfl)) rfl, tyX11_ok 35 (by decide), rfl⟩
theorem f_X11_252 : FL RX11 252 11 35 (.int) := (fw_X11_252).r
theorem fw_X11_255 : FLw RX11 255 11 36 (.int) := ⟨_, _, _, _, kc11, by decide, WU_of (mT4 (List.mem_of_getElem? (i := 190) rfl)) rfl, tyX11_ok 36 (by decide), rfl⟩
theorem f_X11_255 : FL RX11 255 11 36 (.int) := (fw_X11_255).r
theorem f_X11_75 : FL RX11 75 11 37 (.array .int) := ⟨_, _, _, _, kc11, by decide, WU_of (mT4 (List.mem_of_getElem? (i := 191) rfl)) rfl, tyX11_ok 37 (by decide)⟩
theorem f_X11_78 : FL RX11 78 11 38 (.array .int) := ⟨_, _, _, _, kc11, by decide, WU_of (mT4 (List.mem_of_getElem? (i := 192) rfl)) rfl, tyX11_ok 38 (by decide)⟩
theorem f_X11_81 : FL RX11 81 11 39 (.array .int) := ⟨_, _, _, _, kc11, by decide, WU_of (mT4 (List.mem_of_getElem? (i := 193) rfl)) rfl, tyX11_ok 39 (by decide)⟩
theorem f_X11_84 : FL RX11 84 11 40 (.array .int) := ⟨_, _, _, _, kc11, by decide, WU_of (mT4 (List.mem_of_getElem? (i := 194) rfl)) rfl, tyX11_ok 40 (by decide)⟩
theorem fw_X11_335 : FLw RX11 335 11 41 (.int) := ⟨_, _, _, _, kc11, by decide, WU_of (mT4 (List.mem_of_getElem? (i := 195) rfl)) rfl, tyX11_ok 41 (by decide), rfl⟩
theorem f_X11_335 : FL RX11 335 11 41 (.int) := (fw_X11_335).r
theorem f_X11_87 : FL RX11 87 11 42 (.array .int) := ⟨_, _, _, _, kc11, by decide, WU_of (mT4 (List.mem_of_getElem? (i := 196) rfl)) rfl, tyX11_ok 42 (by decide)⟩
theorem f_X11_90 : FL RX11 90 11 43 (.array .int) := ⟨_, _, _, _, kc11, by decide, WU_of (mT4 (List.mem_of_getElem? (i := 197) rfl)) rfl, tyX11_ok 43 (by decide)⟩
theorem fw_X11_348 : FLw RX11 348 11 44 (.boolean) := ⟨_, _, _, _, kc11, by decide, WU_of (mT4 (List.mem_of_getElem? (i := 198) rfl)) rfl, tyX11_ok 44 (by decide), rfl⟩
theorem f_X11_348 : FL RX11 348 11 44 (.boolean) := (fw_X11_348).r
theorem fw_X11_351 : FLw RX11 351 11 45 (.int) := ⟨_, _, _, _, kc11, by decide, WU_of (mT4 (List.mem_of_getElem? (i := 199) rfl)) rfl, tyX11_ok 45 (by decide), rfl⟩
theorem f_X11_351 : FL RX11 351 11 45 (.int) := (fw_X11_351).r
theorem f_X11_93 : FL RX11 93 11 46 (.array .int) := ⟨_, _, _, _, kc11, by decide, WU_of (mT4 (List.mem_of_getElem? (i := 200) rfl)) rfl, tyX11_ok 46 (by decide)⟩
theorem fw_X11_354 : FLw RX11 354 11 47 (.int) := ⟨_, _, _, _, kc11, by decide, WU_of (mT4 (List.mem_of_getElem? (i := 201) rfl)) rfl, tyX11_ok 47 (by decide), rfl⟩
theorem f_X11_354 : FL RX11 354 11 47 (.int) := (fw_X11_354).r
theorem f_X11_96 : FL RX11 96 11 48 (.array .int) := ⟨_, _, _, _, kc11, by decide, WU_of (mT4 (List.mem_of_getElem? (i := 202) rfl)) rfl, tyX11_ok 48 (by decide)⟩
theorem f_X11_99 : FL RX11 99 11 49 (.array .int) := ⟨_, _, _, _, kc11, by decide, WU_of (mT4 (List.mem_of_getElem? (i := 203) rfl)) rfl, tyX11_ok 49 (by decide)⟩
theorem f_X11_102 : FL RX11 102 11 50 (.array .int) := ⟨_, _, _, _, kc11, by decide, WU_of (mT4 (List.mem_of_getElem? (i := 204) rfl)) rfl, tyX11_ok 50 (by decide)⟩
theorem f_X11_105 : FL RX11 105 11 51 (.array .long) := ⟨_, _, _, _, kc11, by decide, WU_of (mT4 (List.mem_of_getElem? (i := 205) rfl)) rfl, tyX11_ok 51 (by decide)⟩
theorem f_X11_109 : FL RX11 109 11 52 (.array .long) := ⟨_, _, _, _, kc11, by decide, WU_of (mT4 (List.mem_of_getElem? (i := 206) rfl)) rfl, tyX11_ok 52 (by decide)⟩
theorem mv_L_17 : MV RL 17 11 yX11_thing cX11_thing 3 ((Option.some Jvm.ClassFile.FieldType.int)) 2 := ⟨⟨WU_of (mT5 (List.mem_of_getElem? (i := 76) rfl)) rfl, WU_of (mT5 (List.mem_of_getElem? (i := 79) rfl)) rfl, WU_of (mT1 (List.mem_of_getElem? (i := 12) rfl)) rfl, ⟨by decide +kernel, by decide +kernel, by decide +kernel⟩, by decide⟩, WU_of (mT5 (List.mem_of_getElem? (i := 77) rfl)) rfl, WU_of (mT5 (List.mem_of_getElem? (i := 78) rfl)) rfl, _, _, rfl⟩
theorem ms_X11_122 : MS RX11 122 yX11_isThingSo cX11_isThingSo 3 ((Option.some Jvm.ClassFile.FieldType.boolean)) 3 := ⟨⟨WU_of (mT5 (List.mem_of_getElem? (i := 80) rfl)) rfl, WU_of (mT5 (List.mem_of_getElem? (i := 82) rfl)) rfl, WU_of (mT1 (List.mem_of_getElem? (i := 12) rfl)) rfl, ⟨by decide +kernel, by decide +kernel, by decide +kernel⟩, by decide⟩, WU_of (mT5 (List.mem_of_getElem? (i := 81) rfl)) rfl⟩
theorem ms_X11_118 : MS RX11 118 yX11_in cX11_in 3 ((Option.some Jvm.ClassFile.FieldType.boolean)) 3 := ⟨⟨WU_of (mT5 (List.mem_of_getElem? (i := 83) rfl)) rfl, WU_of (mT5 (List.mem_of_getElem? (i := 85) rfl)) rfl, WU_of (mT1 (List.mem_of_getElem? (i := 12) rfl)) rfl, ⟨by decide +kernel, by decide +kernel, by decide +kernel⟩, by decide⟩, WU_of (mT5 (List.mem_of_getElem? (i := 84) rfl)) rfl⟩
theorem mv_X11_125 : MV RX11 125 11 yX11_addThing cX11_addThing 5 ((Option.some Jvm.ClassFile.FieldType.int)) 4 := ⟨⟨WU_of (mT5 (List.mem_of_getElem? (i := 86) rfl)) rfl, WU_of (mT5 (List.mem_of_getElem? (i := 89) rfl)) rfl, WU_of (mT1 (List.mem_of_getElem? (i := 12) rfl)) rfl, ⟨by decide +kernel, by decide +kernel, by decide +kernel⟩, by decide⟩, WU_of (mT5 (List.mem_of_getElem? (i := 88) rfl)) rfl, WU_of (mP2 (List.mem_of_getElem? (i := 8) rfl)) rfl, _, _, rfl⟩
theorem mv_L_22 : MV RL 22 11 yX11_things cX11_things 8 ((Option.some Jvm.ClassFile.FieldType.int)) 3 := ⟨⟨WU_of (mT5 (List.mem_of_getElem? (i := 90) rfl)) rfl, WU_of (mT5 (List.mem_of_getElem? (i := 93) rfl)) rfl, WU_of (mT1 (List.mem_of_getElem? (i := 12) rfl)) rfl, ⟨by decide +kernel, by decide +kernel, by decide +kernel⟩, by decide⟩, WU_of (mT5 (List.mem_of_getElem? (i := 91) rfl)) rfl, WU_of (mT5 (List.mem_of_getElem? (i := 92) rfl)) rfl, _, _, rfl⟩
theorem ms_X11_129 : MS RX11 129 yX11_isShelf cX11_isShelf 1 ((Option.some Jvm.ClassFile.FieldType.boolean)) 1 := ⟨⟨WU_of (mT5 (List.mem_of_getElem? (i := 94) rfl)) rfl, WU_of (mT5 (List.mem_of_getElem? (i := 96) rfl)) rfl, WU_of (mT1 (List.mem_of_getElem? (i := 12) rfl)) rfl, ⟨by decide +kernel, by decide +kernel, by decide +kernel⟩, by decide⟩, WU_of (mT5 (List.mem_of_getElem? (i := 95) rfl)) rfl⟩
theorem k_X11_133 : Cond.constantLong RX11 133 (3) ∈ WU := WU_of (mT5 (List.mem_of_getElem? (i := 97) rfl)) rfl
theorem mv_L_122 : MV RL 122 11 yX11_undo cX11_undo 1 ((Option.some Jvm.ClassFile.FieldType.int)) 0 := ⟨⟨WU_of (mT5 (List.mem_of_getElem? (i := 98) rfl)) rfl, WU_of (mT5 (List.mem_of_getElem? (i := 101) rfl)) rfl, WU_of (mT1 (List.mem_of_getElem? (i := 12) rfl)) rfl, ⟨by decide +kernel, by decide +kernel, by decide +kernel⟩, by decide⟩, WU_of (mT5 (List.mem_of_getElem? (i := 99) rfl)) rfl, WU_of (mT5 (List.mem_of_getElem? (i := 100) rfl)) rfl, _, _, rfl⟩
theorem mv_X11_145 : MV RX11 145 11 yX11_lays cX11_lays 4 ((Option.none : Option Jvm.ClassFile.FieldType)) 3 := ⟨⟨WU_of (mT5 (List.mem_of_getElem? (i := 102) rfl)) rfl, WU_of (mT5 (List.mem_of_getElem? (i := 105) rfl)) rfl, WU_of (mT1 (List.mem_of_getElem? (i := 12) rfl)) rfl, ⟨by decide +kernel, by decide +kernel, by decide +kernel⟩, by decide⟩, WU_of (mT5 (List.mem_of_getElem? (i := 104) rfl)) rfl, WU_of (mP2 (List.mem_of_getElem? (i := 9) rfl)) rfl, _, _, rfl⟩
theorem mv_L_126 : MV RL 126 11 yX11_redo cX11_redo 1 ((Option.some Jvm.ClassFile.FieldType.int)) 0 := ⟨⟨WU_of (mT5 (List.mem_of_getElem? (i := 106) rfl)) rfl, WU_of (mT5 (List.mem_of_getElem? (i := 109) rfl)) rfl, WU_of (mT1 (List.mem_of_getElem? (i := 12) rfl)) rfl, ⟨by decide +kernel, by decide +kernel, by decide +kernel⟩, by decide⟩, WU_of (mT5 (List.mem_of_getElem? (i := 107) rfl)) rfl, WU_of (mT5 (List.mem_of_getElem? (i := 108) rfl)) rfl, _, _, rfl⟩
theorem mv_L_26 : MV RL 26 11 yX11_mend cX11_mend 4 ((Option.some Jvm.ClassFile.FieldType.int)) 3 := ⟨⟨WU_of (mT5 (List.mem_of_getElem? (i := 110) rfl)) rfl, WU_of (mT5 (List.mem_of_getElem? (i := 113) rfl)) rfl, WU_of (mT1 (List.mem_of_getElem? (i := 12) rfl)) rfl, ⟨by decide +kernel, by decide +kernel, by decide +kernel⟩, by decide⟩, WU_of (mT5 (List.mem_of_getElem? (i := 111) rfl)) rfl, WU_of (mT5 (List.mem_of_getElem? (i := 112) rfl)) rfl, _, _, rfl⟩
theorem mv_X11_152 : MV RX11 152 11 yX11_isOne cX11_isOne 3 ((Option.some Jvm.ClassFile.FieldType.boolean)) 2 := ⟨⟨WU_of (mT5 (List.mem_of_getElem? (i := 114) rfl)) rfl, WU_of (mT5 (List.mem_of_getElem? (i := 117) rfl)) rfl, WU_of (mT1 (List.mem_of_getElem? (i := 12) rfl)) rfl, ⟨by decide +kernel, by decide +kernel, by decide +kernel⟩, by decide⟩, WU_of (mT5 (List.mem_of_getElem? (i := 116) rfl)) rfl, WU_of (mP2 (List.mem_of_getElem? (i := 10) rfl)) rfl, _, _, rfl⟩
theorem mv_X11_149 : MV RX11 149 11 yX11_isThing cX11_isThing 2 ((Option.some Jvm.ClassFile.FieldType.boolean)) 1 := ⟨⟨WU_of (mT5 (List.mem_of_getElem? (i := 118) rfl)) rfl, WU_of (mT5 (List.mem_of_getElem? (i := 121) rfl)) rfl, WU_of (mT1 (List.mem_of_getElem? (i := 12) rfl)) rfl, ⟨by decide +kernel, by decide +kernel, by decide +kernel⟩, by decide⟩, WU_of (mT5 (List.mem_of_getElem? (i := 120) rfl)) rfl, WU_of (mP2 (List.mem_of_getElem? (i := 11) rfl)) rfl, _, _, rfl⟩
theorem ms_X11_156 : MS RX11 156 yX11_mayBe cX11_mayBe 2 ((Option.some Jvm.ClassFile.FieldType.boolean)) 2 := ⟨⟨WU_of (mT5 (List.mem_of_getElem? (i := 122) rfl)) rfl, WU_of (mT5 (List.mem_of_getElem? (i := 124) rfl)) rfl, WU_of (mT1 (List.mem_of_getElem? (i := 12) rfl)) rfl, ⟨by decide +kernel, by decide +kernel, by decide +kernel⟩, by decide⟩, WU_of (mT5 (List.mem_of_getElem? (i := 123) rfl)) rfl⟩
theorem mv_X11_159 : MV RX11 159 11 yX11_changes cX11_changes 6 ((Option.some Jvm.ClassFile.FieldType.int)) 3 := ⟨⟨WU_of (mT5 (List.mem_of_getElem? (i := 125) rfl)) rfl, WU_of (mT5 (List.mem_of_getElem? (i := 128) rfl)) rfl, WU_of (mT1 (List.mem_of_getElem? (i := 12) rfl)) rfl, ⟨by decide +kernel, by decide +kernel, by decide +kernel⟩, by decide⟩, WU_of (mT5 (List.mem_of_getElem? (i := 127) rfl)) rfl, WU_of (mP2 (List.mem_of_getElem? (i := 12) rfl)) rfl, _, _, rfl⟩
theorem mv_X11_135 : MV RX11 135 11 yX11_valueAt cX11_valueAt 3 ((Option.some Jvm.ClassFile.FieldType.int)) 2 := ⟨⟨WU_of (mT5 (List.mem_of_getElem? (i := 129) rfl)) rfl, WU_of (mT5 (List.mem_of_getElem? (i := 132) rfl)) rfl, WU_of (mT1 (List.mem_of_getElem? (i := 12) rfl)) rfl, ⟨by decide +kernel, by decide +kernel, by decide +kernel⟩, by decide⟩, WU_of (mT5 (List.mem_of_getElem? (i := 131) rfl)) rfl, WU_of (mP2 (List.mem_of_getElem? (i := 13) rfl)) rfl, _, _, rfl⟩
theorem mv_L_30 : MV RL 30 11 yX11_of cX11_of 3 ((Option.some Jvm.ClassFile.FieldType.int)) 2 := ⟨⟨WU_of (mT5 (List.mem_of_getElem? (i := 133) rfl)) rfl, WU_of (mT5 (List.mem_of_getElem? (i := 136) rfl)) rfl, WU_of (mT1 (List.mem_of_getElem? (i := 12) rfl)) rfl, ⟨by decide +kernel, by decide +kernel, by decide +kernel⟩, by decide⟩, WU_of (mT5 (List.mem_of_getElem? (i := 134) rfl)) rfl, WU_of (mT5 (List.mem_of_getElem? (i := 135) rfl)) rfl, _, _, rfl⟩
theorem mv_L_35 : MV RL 35 11 yX11_feed cX11_feed 2 ((Option.some Jvm.ClassFile.FieldType.int)) 1 := ⟨⟨WU_of (mT5 (List.mem_of_getElem? (i := 137) rfl)) rfl, WU_of (mT5 (List.mem_of_getElem? (i := 140) rfl)) rfl, WU_of (mT1 (List.mem_of_getElem? (i := 12) rfl)) rfl, ⟨by decide +kernel, by decide +kernel, by decide +kernel⟩, by decide⟩, WU_of (mT5 (List.mem_of_getElem? (i := 138) rfl)) rfl, WU_of (mT5 (List.mem_of_getElem? (i := 139) rfl)) rfl, _, _, rfl⟩
theorem mv_L_40 : MV RL 40 11 yX11_law cX11_law 2 ((Option.some Jvm.ClassFile.FieldType.int)) 0 := ⟨⟨WU_of (mT5 (List.mem_of_getElem? (i := 141) rfl)) rfl, WU_of (mT5 (List.mem_of_getElem? (i := 144) rfl)) rfl, WU_of (mT1 (List.mem_of_getElem? (i := 12) rfl)) rfl, ⟨by decide +kernel, by decide +kernel, by decide +kernel⟩, by decide⟩, WU_of (mT5 (List.mem_of_getElem? (i := 142) rfl)) rfl, WU_of (mT5 (List.mem_of_getElem? (i := 143) rfl)) rfl, _, _, rfl⟩
theorem mv_X11_227 : MV RX11 227 11 yX11_readText cX11_readText 3 ((Option.some Jvm.ClassFile.FieldType.int)) 1 := ⟨⟨WU_of (mT5 (List.mem_of_getElem? (i := 145) rfl)) rfl, WU_of (mT5 (List.mem_of_getElem? (i := 148) rfl)) rfl, WU_of (mT1 (List.mem_of_getElem? (i := 12) rfl)) rfl, ⟨by decide +kernel, by decide +kernel, by decide +kernel⟩, by decide⟩, WU_of (mT5 (List.mem_of_getElem? (i := 147) rfl)) rfl, WU_of (mP2 (List.mem_of_getElem? (i := 14) rfl)) rfl, _, _, rfl⟩
theorem mv_X11_218 : MV RX11 218 11 yX11_line cX11_line 2 ((Option.none : Option Jvm.ClassFile.FieldType)) 0 := ⟨⟨WU_of (mT5 (List.mem_of_getElem? (i := 149) rfl)) rfl, WU_of (mT5 (List.mem_of_getElem? (i := 152) rfl)) rfl, WU_of (mT1 (List.mem_of_getElem? (i := 12) rfl)) rfl, ⟨by decide +kernel, by decide +kernel, by decide +kernel⟩, by decide⟩, WU_of (mT5 (List.mem_of_getElem? (i := 151) rfl)) rfl, WU_of (mP2 (List.mem_of_getElem? (i := 15) rfl)) rfl, _, _, rfl⟩
theorem mv_X11_200 : MV RX11 200 11 yX11_either cX11_either 1 ((Option.none : Option Jvm.ClassFile.FieldType)) 0 := ⟨⟨WU_of (mT5 (List.mem_of_getElem? (i := 153) rfl)) rfl, WU_of (mT5 (List.mem_of_getElem? (i := 156) rfl)) rfl, WU_of (mT1 (List.mem_of_getElem? (i := 12) rfl)) rfl, ⟨by decide +kernel, by decide +kernel, by decide +kernel⟩, by decide⟩, WU_of (mT5 (List.mem_of_getElem? (i := 155) rfl)) rfl, WU_of (mP3 (List.mem_of_getElem? (i := 0) rfl)) rfl, _, _, rfl⟩
theorem mv_X11_215 : MV RX11 215 11 yX11_both cX11_both 1 ((Option.none : Option Jvm.ClassFile.FieldType)) 0 := ⟨⟨WU_of (mT5 (List.mem_of_getElem? (i := 157) rfl)) rfl, WU_of (mT5 (List.mem_of_getElem? (i := 160) rfl)) rfl, WU_of (mT1 (List.mem_of_getElem? (i := 12) rfl)) rfl, ⟨by decide +kernel, by decide +kernel, by decide +kernel⟩, by decide⟩, WU_of (mT5 (List.mem_of_getElem? (i := 159) rfl)) rfl, WU_of (mP3 (List.mem_of_getElem? (i := 1) rfl)) rfl, _, _, rfl⟩
theorem mv_X11_212 : MV RX11 212 11 yX11_compared cX11_compared 2 ((Option.none : Option Jvm.ClassFile.FieldType)) 0 := ⟨⟨WU_of (mT5 (List.mem_of_getElem? (i := 161) rfl)) rfl, WU_of (mT5 (List.mem_of_getElem? (i := 164) rfl)) rfl, WU_of (mT1 (List.mem_of_getElem? (i := 12) rfl)) rfl, ⟨by decide +kernel, by decide +kernel, by decide +kernel⟩, by decide⟩, WU_of (mT5 (List.mem_of_getElem? (i := 163) rfl)) rfl, WU_of (mP3 (List.mem_of_getElem? (i := 2) rfl)) rfl, _, _, rfl⟩
theorem mv_X11_209 : MV RX11 209 11 yX11_sum cX11_sum 2 ((Option.none : Option Jvm.ClassFile.FieldType)) 0 := ⟨⟨WU_of (mT5 (List.mem_of_getElem? (i := 165) rfl)) rfl, WU_of (mT5 (List.mem_of_getElem? (i := 168) rfl)) rfl, WU_of (mT1 (List.mem_of_getElem? (i := 12) rfl)) rfl, ⟨by decide +kernel, by decide +kernel, by decide +kernel⟩, by decide⟩, WU_of (mT5 (List.mem_of_getElem? (i := 167) rfl)) rfl, WU_of (mP3 (List.mem_of_getElem? (i := 3) rfl)) rfl, _, _, rfl⟩
theorem mv_X11_206 : MV RX11 206 11 yX11_product cX11_product 2 ((Option.none : Option Jvm.ClassFile.FieldType)) 0 := ⟨⟨WU_of (mT5 (List.mem_of_getElem? (i := 169) rfl)) rfl, WU_of (mT5 (List.mem_of_getElem? (i := 172) rfl)) rfl, WU_of (mT1 (List.mem_of_getElem? (i := 12) rfl)) rfl, ⟨by decide +kernel, by decide +kernel, by decide +kernel⟩, by decide⟩, WU_of (mT5 (List.mem_of_getElem? (i := 171) rfl)) rfl, WU_of (mP3 (List.mem_of_getElem? (i := 4) rfl)) rfl, _, _, rfl⟩
theorem mv_X11_197 : MV RX11 197 11 yX11_operand cX11_operand 2 ((Option.none : Option Jvm.ClassFile.FieldType)) 0 := ⟨⟨WU_of (mT5 (List.mem_of_getElem? (i := 173) rfl)) rfl, WU_of (mT5 (List.mem_of_getElem? (i := 176) rfl)) rfl, WU_of (mT1 (List.mem_of_getElem? (i := 12) rfl)) rfl, ⟨by decide +kernel, by decide +kernel, by decide +kernel⟩, by decide⟩, WU_of (mT5 (List.mem_of_getElem? (i := 175) rfl)) rfl, WU_of (mP3 (List.mem_of_getElem? (i := 5) rfl)) rfl, _, _, rfl⟩
theorem mv_X11_181 : MV RX11 181 11 yX11_look cX11_look 1 ((Option.some Jvm.ClassFile.FieldType.int)) 0 := ⟨⟨WU_of (mT5 (List.mem_of_getElem? (i := 177) rfl)) rfl, WU_of (mT5 (List.mem_of_getElem? (i := 180) rfl)) rfl, WU_of (mT1 (List.mem_of_getElem? (i := 12) rfl)) rfl, ⟨by decide +kernel, by decide +kernel, by decide +kernel⟩, by decide⟩, WU_of (mT5 (List.mem_of_getElem? (i := 179) rfl)) rfl, WU_of (mP3 (List.mem_of_getElem? (i := 6) rfl)) rfl, _, _, rfl⟩
theorem ms_X11_189 : MS RX11 189 yX11_nameOf cX11_nameOf 1 ((Option.some Jvm.ClassFile.FieldType.int)) 1 := ⟨⟨WU_of (mT5 (List.mem_of_getElem? (i := 181) rfl)) rfl, WU_of (mT5 (List.mem_of_getElem? (i := 183) rfl)) rfl, WU_of (mT1 (List.mem_of_getElem? (i := 12) rfl)) rfl, ⟨by decide +kernel, by decide +kernel, by decide +kernel⟩, by decide⟩, WU_of (mT5 (List.mem_of_getElem? (i := 182) rfl)) rfl⟩
theorem mv_X11_185 : MV RX11 185 11 yX11_addStep cX11_addStep 3 ((Option.none : Option Jvm.ClassFile.FieldType)) 2 := ⟨⟨WU_of (mT5 (List.mem_of_getElem? (i := 184) rfl)) rfl, WU_of (mT5 (List.mem_of_getElem? (i := 187) rfl)) rfl, WU_of (mT1 (List.mem_of_getElem? (i := 12) rfl)) rfl, ⟨by decide +kernel, by decide +kernel, by decide +kernel⟩, by decide⟩, WU_of (mT5 (List.mem_of_getElem? (i := 186) rfl)) rfl, WU_of (mP3 (List.mem_of_getElem? (i := 7) rfl)) rfl, _, _, rfl⟩
theorem mv_X11_193 : MV RX11 193 11 yX11_opens cX11_opens 1 ((Option.some Jvm.ClassFile.FieldType.boolean)) 0 := ⟨⟨WU_of (mT5 (List.mem_of_getElem? (i := 188) rfl)) rfl, WU_of (mT5 (List.mem_of_getElem? (i := 191) rfl)) rfl, WU_of (mT1 (List.mem_of_getElem? (i := 12) rfl)) rfl, ⟨by decide +kernel, by decide +kernel, by decide +kernel⟩, by decide⟩, WU_of (mT5 (List.mem_of_getElem? (i := 190) rfl)) rfl, WU_of (mP3 (List.mem_of_getElem? (i := 8) rfl)) rfl, _, _, rfl⟩
theorem mv_X11_178 : MV RX11 178 11 yX11_faulty cX11_faulty 1 ((Option.none : Option Jvm.ClassFile.FieldType)) 0 := ⟨⟨WU_of (mT5 (List.mem_of_getElem? (i := 192) rfl)) rfl, WU_of (mT5 (List.mem_of_getElem? (i := 195) rfl)) rfl, WU_of (mT1 (List.mem_of_getElem? (i := 12) rfl)) rfl, ⟨by decide +kernel, by decide +kernel, by decide +kernel⟩, by decide⟩, WU_of (mT5 (List.mem_of_getElem? (i := 194) rfl)) rfl, WU_of (mP3 (List.mem_of_getElem? (i := 9) rfl)) rfl, _, _, rfl⟩
theorem mv_X11_203 : MV RX11 203 11 yX11_figure cX11_figure 3 ((Option.none : Option Jvm.ClassFile.FieldType)) 0 := ⟨⟨WU_of (mT5 (List.mem_of_getElem? (i := 196) rfl)) rfl, WU_of (mT5 (List.mem_of_getElem? (i := 199) rfl)) rfl, WU_of (mT1 (List.mem_of_getElem? (i := 12) rfl)) rfl, ⟨by decide +kernel, by decide +kernel, by decide +kernel⟩, by decide⟩, WU_of (mT5 (List.mem_of_getElem? (i := 198) rfl)) rfl, WU_of (mP3 (List.mem_of_getElem? (i := 10) rfl)) rfl, _, _, rfl⟩
theorem mv_L_44 : MV RL 44 11 yX11_drive cX11_drive 3 ((Option.some Jvm.ClassFile.FieldType.int)) 2 := ⟨⟨WU_of (mT5 (List.mem_of_getElem? (i := 200) rfl)) rfl, WU_of (mT5 (List.mem_of_getElem? (i := 203) rfl)) rfl, WU_of (mT1 (List.mem_of_getElem? (i := 12) rfl)) rfl, ⟨by decide +kernel, by decide +kernel, by decide +kernel⟩, by decide⟩, WU_of (mT5 (List.mem_of_getElem? (i := 201) rfl)) rfl, WU_of (mT5 (List.mem_of_getElem? (i := 202) rfl)) rfl, _, _, rfl⟩
theorem mv_X11_284 : MV RX11 284 11 yX11_isTold cX11_isTold 2 ((Option.some Jvm.ClassFile.FieldType.boolean)) 1 := ⟨⟨WU_of (mT5 (List.mem_of_getElem? (i := 204) rfl)) rfl, WU_of (mT5 (List.mem_of_getElem? (i := 207) rfl)) rfl, WU_of (mT1 (List.mem_of_getElem? (i := 12) rfl)) rfl, ⟨by decide +kernel, by decide +kernel, by decide +kernel⟩, by decide⟩, WU_of (mT5 (List.mem_of_getElem? (i := 206) rfl)) rfl, WU_of (mP3 (List.mem_of_getElem? (i := 11) rfl)) rfl, _, _, rfl⟩
theorem mv_X11_262 : MV RX11 262 11 yX11_allThings cX11_allThings 1 ((Option.some Jvm.ClassFile.FieldType.int)) 0 := ⟨⟨WU_of (mT5 (List.mem_of_getElem? (i := 208) rfl)) rfl, WU_of (mT5 (List.mem_of_getElem? (i := 211) rfl)) rfl, WU_of (mT1 (List.mem_of_getElem? (i := 12) rfl)) rfl, ⟨by decide +kernel, by decide +kernel, by decide +kernel⟩, by decide⟩, WU_of (mT5 (List.mem_of_getElem? (i := 210) rfl)) rfl, WU_of (mP3 (List.mem_of_getElem? (i := 12) rfl)) rfl, _, _, rfl⟩
theorem mv_X11_287 : MV RX11 287 11 yX11_goDrive cX11_goDrive 3 ((Option.none : Option Jvm.ClassFile.FieldType)) 1 := ⟨⟨WU_of (mT5 (List.mem_of_getElem? (i := 212) rfl)) rfl, WU_of (mT5 (List.mem_of_getElem? (i := 215) rfl)) rfl, WU_of (mT1 (List.mem_of_getElem? (i := 12) rfl)) rfl, ⟨by decide +kernel, by decide +kernel, by decide +kernel⟩, by decide⟩, WU_of (mT5 (List.mem_of_getElem? (i := 214) rfl)) rfl, WU_of (mP3 (List.mem_of_getElem? (i := 13) rfl)) rfl, _, _, rfl⟩
theorem mv_X11_277 : MV RX11 277 11 yX11_begin cX11_begin 2 ((Option.none : Option Jvm.ClassFile.FieldType)) 1 := ⟨⟨WU_of (mT5 (List.mem_of_getElem? (i := 216) rfl)) rfl, WU_of (mT5 (List.mem_of_getElem? (i := 219) rfl)) rfl, WU_of (mT1 (List.mem_of_getElem? (i := 12) rfl)) rfl, ⟨by decide +kernel, by decide +kernel, by decide +kernel⟩, by decide⟩, WU_of (mT5 (List.mem_of_getElem? (i := 218) rfl)) rfl, WU_of (mP3 (List.mem_of_getElem? (i := 14) rfl)) rfl, _, _, rfl⟩
theorem mv_X11_281 : MV RX11 281 11 yX11_stopAt cX11_stopAt 3 ((Option.none : Option Jvm.ClassFile.FieldType)) 1 := ⟨⟨WU_of (mT5 (List.mem_of_getElem? (i := 220) rfl)) rfl, WU_of (mT5 (List.mem_of_getElem? (i := 223) rfl)) rfl, WU_of (mT1 (List.mem_of_getElem? (i := 12) rfl)) rfl, ⟨by decide +kernel, by decide +kernel, by decide +kernel⟩, by decide⟩, WU_of (mT5 (List.mem_of_getElem? (i := 222) rfl)) rfl, WU_of (mP3 (List.mem_of_getElem? (i := 15) rfl)) rfl, _, _, rfl⟩
theorem mv_X11_265 : MV RX11 265 11 yX11_comesAt cX11_comesAt 4 ((Option.some Jvm.ClassFile.FieldType.int)) 1 := ⟨⟨WU_of (mT5 (List.mem_of_getElem? (i := 224) rfl)) rfl, WU_of (mT5 (List.mem_of_getElem? (i := 227) rfl)) rfl, WU_of (mT1 (List.mem_of_getElem? (i := 12) rfl)) rfl, ⟨by decide +kernel, by decide +kernel, by decide +kernel⟩, by decide⟩, WU_of (mT5 (List.mem_of_getElem? (i := 226) rfl)) rfl, WU_of (mP4 (List.mem_of_getElem? (i := 0) rfl)) rfl, _, _, rfl⟩
theorem mv_X11_268 : MV RX11 268 11 yX11_goFor cX11_goFor 6 ((Option.none : Option Jvm.ClassFile.FieldType)) 2 := ⟨⟨WU_of (mT5 (List.mem_of_getElem? (i := 228) rfl)) rfl, WU_of (mT5 (List.mem_of_getElem? (i := 231) rfl)) rfl, WU_of (mT1 (List.mem_of_getElem? (i := 12) rfl)) rfl, ⟨by decide +kernel, by decide +kernel, by decide +kernel⟩, by decide⟩, WU_of (mT5 (List.mem_of_getElem? (i := 230) rfl)) rfl, WU_of (mP4 (List.mem_of_getElem? (i := 1) rfl)) rfl, _, _, rfl⟩
theorem mv_X11_258 : MV RX11 258 11 yX11_goingTakes cX11_goingTakes 7 ((Option.some Jvm.ClassFile.FieldType.int)) 5 := ⟨⟨WU_of (mT5 (List.mem_of_getElem? (i := 232) rfl)) rfl, WU_of (mT5 (List.mem_of_getElem? (i := 235) rfl)) rfl, WU_of (mT1 (List.mem_of_getElem? (i := 12) rfl)) rfl, ⟨by decide +kernel, by decide +kernel, by decide +kernel⟩, by decide⟩, WU_of (mT5 (List.mem_of_getElem? (i := 234) rfl)) rfl, WU_of (mP4 (List.mem_of_getElem? (i := 2) rfl)) rfl, _, _, rfl⟩
theorem mv_X11_234 : MV RX11 234 11 yX11_gives cX11_gives 4 ((Option.some Jvm.ClassFile.FieldType.int)) 1 := ⟨⟨WU_of (mT5 (List.mem_of_getElem? (i := 236) rfl)) rfl, WU_of (mT5 (List.mem_of_getElem? (i := 239) rfl)) rfl, WU_of (mT1 (List.mem_of_getElem? (i := 12) rfl)) rfl, ⟨by decide +kernel, by decide +kernel, by decide +kernel⟩, by decide⟩, WU_of (mT5 (List.mem_of_getElem? (i := 238) rfl)) rfl, WU_of (mP4 (List.mem_of_getElem? (i := 3) rfl)) rfl, _, _, rfl⟩
theorem mv_X11_224 : MV RX11 224 11 yX11_worked cX11_worked 7 ((Option.some Jvm.ClassFile.FieldType.int)) 3 := ⟨⟨WU_of (mT6 (List.mem_of_getElem? (i := 0) rfl)) rfl, WU_of (mT6 (List.mem_of_getElem? (i := 3) rfl)) rfl, WU_of (mT1 (List.mem_of_getElem? (i := 12) rfl)) rfl, ⟨by decide +kernel, by decide +kernel, by decide +kernel⟩, by decide⟩, WU_of (mT6 (List.mem_of_getElem? (i := 2) rfl)) rfl, WU_of (mP4 (List.mem_of_getElem? (i := 4) rfl)) rfl, _, _, rfl⟩
theorem ms_X11_221 : MS RX11 221 yX11_twoOf cX11_twoOf 3 ((Option.some Jvm.ClassFile.FieldType.int)) 3 := ⟨⟨WU_of (mT6 (List.mem_of_getElem? (i := 4) rfl)) rfl, WU_of (mT6 (List.mem_of_getElem? (i := 6) rfl)) rfl, WU_of (mT1 (List.mem_of_getElem? (i := 12) rfl)) rfl, ⟨by decide +kernel, by decide +kernel, by decide +kernel⟩, by decide⟩, WU_of (mT6 (List.mem_of_getElem? (i := 5) rfl)) rfl⟩
theorem mv_X11_271 : MV RX11 271 11 yX11_worthOf cX11_worthOf 4 ((Option.some Jvm.ClassFile.FieldType.int)) 1 := ⟨⟨WU_of (mT6 (List.mem_of_getElem? (i := 7) rfl)) rfl, WU_of (mT6 (List.mem_of_getElem? (i := 10) rfl)) rfl, WU_of (mT1 (List.mem_of_getElem? (i := 12) rfl)) rfl, ⟨by decide +kernel, by decide +kernel, by decide +kernel⟩, by decide⟩, WU_of (mT6 (List.mem_of_getElem? (i := 9) rfl)) rfl, WU_of (mP4 (List.mem_of_getElem? (i := 5) rfl)) rfl, _, _, rfl⟩
theorem mv_X11_274 : MV RX11 274 11 yX11_toHouse cX11_toHouse 4 ((Option.some Jvm.ClassFile.FieldType.int)) 1 := ⟨⟨WU_of (mT6 (List.mem_of_getElem? (i := 11) rfl)) rfl, WU_of (mT6 (List.mem_of_getElem? (i := 14) rfl)) rfl, WU_of (mT1 (List.mem_of_getElem? (i := 12) rfl)) rfl, ⟨by decide +kernel, by decide +kernel, by decide +kernel⟩, by decide⟩, WU_of (mT6 (List.mem_of_getElem? (i := 13) rfl)) rfl, WU_of (mP4 (List.mem_of_getElem? (i := 6) rfl)) rfl, _, _, rfl⟩
theorem mv_X11_290 : MV RX11 290 11 yX11_costNow cX11_costNow 1 ((Option.some Jvm.ClassFile.FieldType.int)) 0 := ⟨⟨WU_of (mT6 (List.mem_of_getElem? (i := 15) rfl)) rfl, WU_of (mT6 (List.mem_of_getElem? (i := 18) rfl)) rfl, WU_of (mT1 (List.mem_of_getElem? (i := 12) rfl)) rfl, ⟨by decide +kernel, by decide +kernel, by decide +kernel⟩, by decide⟩, WU_of (mT6 (List.mem_of_getElem? (i := 17) rfl)) rfl, WU_of (mP4 (List.mem_of_getElem? (i := 7) rfl)) rfl, _, _, rfl⟩
theorem mv_L_48 : MV RL 48 11 yX11_going cX11_going 4 ((Option.some Jvm.ClassFile.FieldType.int)) 3 := ⟨⟨WU_of (mT6 (List.mem_of_getElem? (i := 19) rfl)) rfl, WU_of (mT6 (List.mem_of_getElem? (i := 22) rfl)) rfl, WU_of (mT1 (List.mem_of_getElem? (i := 12) rfl)) rfl, ⟨by decide +kernel, by decide +kernel, by decide +kernel⟩, by decide⟩, WU_of (mT6 (List.mem_of_getElem? (i := 20) rfl)) rfl, WU_of (mT6 (List.mem_of_getElem? (i := 21) rfl)) rfl, _, _, rfl⟩
theorem mv_L_53 : MV RL 53 11 yX11_mean cX11_mean 2 ((Option.some Jvm.ClassFile.FieldType.long)) 1 := ⟨⟨WU_of (mT6 (List.mem_of_getElem? (i := 23) rfl)) rfl, WU_of (mT6 (List.mem_of_getElem? (i := 26) rfl)) rfl, WU_of (mT1 (List.mem_of_getElem? (i := 12) rfl)) rfl, ⟨by decide +kernel, by decide +kernel, by decide +kernel⟩, by decide⟩, WU_of (mT6 (List.mem_of_getElem? (i := 24) rfl)) rfl, WU_of (mT6 (List.mem_of_getElem? (i := 25) rfl)) rfl, _, _, rfl⟩
theorem ms_X11_299 : MS RX11 299 yX11_isPart cX11_isPart 1 ((Option.some Jvm.ClassFile.FieldType.boolean)) 1 := ⟨⟨WU_of (mT6 (List.mem_of_getElem? (i := 27) rfl)) rfl, WU_of (mT6 (List.mem_of_getElem? (i := 29) rfl)) rfl, WU_of (mT1 (List.mem_of_getElem? (i := 12) rfl)) rfl, ⟨by decide +kernel, by decide +kernel, by decide +kernel⟩, by decide⟩, WU_of (mT6 (List.mem_of_getElem? (i := 28) rfl)) rfl⟩
theorem k_X11_302 : Cond.constantLong RX11 302 (-9223372036854775808) ∈ WU := WU_of (mT6 (List.mem_of_getElem? (i := 30) rfl)) rfl
theorem mv_X11_304 : MV RX11 304 11 yX11_findCosts cX11_findCosts 2 ((Option.none : Option Jvm.ClassFile.FieldType)) 0 := ⟨⟨WU_of (mT6 (List.mem_of_getElem? (i := 31) rfl)) rfl, WU_of (mT6 (List.mem_of_getElem? (i := 34) rfl)) rfl, WU_of (mT1 (List.mem_of_getElem? (i := 12) rfl)) rfl, ⟨by decide +kernel, by decide +kernel, by decide +kernel⟩, by decide⟩, WU_of (mT6 (List.mem_of_getElem? (i := 33) rfl)) rfl, WU_of (mP4 (List.mem_of_getElem? (i := 8) rfl)) rfl, _, _, rfl⟩
theorem mv_X11_307 : MV RX11 307 11 yX11_meanNow cX11_meanNow 4 ((Option.some Jvm.ClassFile.FieldType.long)) 0 := ⟨⟨WU_of (mT6 (List.mem_of_getElem? (i := 35) rfl)) rfl, WU_of (mT6 (List.mem_of_getElem? (i := 38) rfl)) rfl, WU_of (mT1 (List.mem_of_getElem? (i := 12) rfl)) rfl, ⟨by decide +kernel, by decide +kernel, by decide +kernel⟩, by decide⟩, WU_of (mT6 (List.mem_of_getElem? (i := 37) rfl)) rfl, WU_of (mP4 (List.mem_of_getElem? (i := 9) rfl)) rfl, _, _, rfl⟩
theorem mv_X11_295 : MV RX11 295 11 yX11_likelyOf cX11_likelyOf 5 ((Option.some Jvm.ClassFile.FieldType.long)) 1 := ⟨⟨WU_of (mT6 (List.mem_of_getElem? (i := 39) rfl)) rfl, WU_of (mT6 (List.mem_of_getElem? (i := 42) rfl)) rfl, WU_of (mT1 (List.mem_of_getElem? (i := 12) rfl)) rfl, ⟨by decide +kernel, by decide +kernel, by decide +kernel⟩, by decide⟩, WU_of (mT6 (List.mem_of_getElem? (i := 41) rfl)) rfl, WU_of (mP4 (List.mem_of_getElem? (i := 10) rfl)) rfl, _, _, rfl⟩
theorem ms_X11_311 : MS RX11 311 yX11_power cX11_power 4 ((Option.some Jvm.ClassFile.FieldType.long)) 1 := ⟨⟨WU_of (mT6 (List.mem_of_getElem? (i := 43) rfl)) rfl, WU_of (mT6 (List.mem_of_getElem? (i := 45) rfl)) rfl, WU_of (mT1 (List.mem_of_getElem? (i := 12) rfl)) rfl, ⟨by decide +kernel, by decide +kernel, by decide +kernel⟩, by decide⟩, WU_of (mT6 (List.mem_of_getElem? (i := 44) rfl)) rfl⟩
theorem k_X11_293 : Cond.constantLong RX11 293 (12) ∈ WU := WU_of (mT6 (List.mem_of_getElem? (i := 46) rfl)) rfl
theorem ms_X11_314 : MS RX11 314 yX11_asPart cX11_asPart 11 ((Option.some Jvm.ClassFile.FieldType.long)) 3 := ⟨⟨WU_of (mT6 (List.mem_of_getElem? (i := 47) rfl)) rfl, WU_of (mT6 (List.mem_of_getElem? (i := 49) rfl)) rfl, WU_of (mT1 (List.mem_of_getElem? (i := 12) rfl)) rfl, ⟨by decide +kernel, by decide +kernel, by decide +kernel⟩, by decide⟩, WU_of (mT6 (List.mem_of_getElem? (i := 48) rfl)) rfl⟩
theorem mv_L_58 : MV RL 58 11 yX11_likely cX11_likely 6 ((Option.some Jvm.ClassFile.FieldType.long)) 2 := ⟨⟨WU_of (mT6 (List.mem_of_getElem? (i := 50) rfl)) rfl, WU_of (mT6 (List.mem_of_getElem? (i := 53) rfl)) rfl, WU_of (mT1 (List.mem_of_getElem? (i := 12) rfl)) rfl, ⟨by decide +kernel, by decide +kernel, by decide +kernel⟩, by decide⟩, WU_of (mT6 (List.mem_of_getElem? (i := 51) rfl)) rfl, WU_of (mT6 (List.mem_of_getElem? (i := 52) rfl)) rfl, _, _, rfl⟩
theorem mv_L_62 : MV RL 62 11 yX11_aloud cX11_aloud 3 ((Option.some Jvm.ClassFile.FieldType.int)) 2 := ⟨⟨WU_of (mT6 (List.mem_of_getElem? (i := 54) rfl)) rfl, WU_of (mT6 (List.mem_of_getElem? (i := 57) rfl)) rfl, WU_of (mT1 (List.mem_of_getElem? (i := 12) rfl)) rfl, ⟨by decide +kernel, by decide +kernel, by decide +kernel⟩, by decide⟩, WU_of (mT6 (List.mem_of_getElem? (i := 55) rfl)) rfl, WU_of (mT6 (List.mem_of_getElem? (i := 56) rfl)) rfl, _, _, rfl⟩
theorem mv_X11_321 : MV RX11 321 11 yX11_aloudBy cX11_aloudBy 3 ((Option.some Jvm.ClassFile.FieldType.int)) 2 := ⟨⟨WU_of (mT6 (List.mem_of_getElem? (i := 58) rfl)) rfl, WU_of (mT6 (List.mem_of_getElem? (i := 61) rfl)) rfl, WU_of (mT1 (List.mem_of_getElem? (i := 12) rfl)) rfl, ⟨by decide +kernel, by decide +kernel, by decide +kernel⟩, by decide⟩, WU_of (mT6 (List.mem_of_getElem? (i := 60) rfl)) rfl, WU_of (mP4 (List.mem_of_getElem? (i := 11) rfl)) rfl, _, _, rfl⟩
theorem ms_X11_318 : MS RX11 318 yX11_bitsOf cX11_bitsOf 3 ((Option.some Jvm.ClassFile.FieldType.int)) 1 := ⟨⟨WU_of (mT6 (List.mem_of_getElem? (i := 62) rfl)) rfl, WU_of (mT6 (List.mem_of_getElem? (i := 64) rfl)) rfl, WU_of (mT1 (List.mem_of_getElem? (i := 12) rfl)) rfl, ⟨by decide +kernel, by decide +kernel, by decide +kernel⟩, by decide⟩, WU_of (mT6 (List.mem_of_getElem? (i := 63) rfl)) rfl⟩
theorem mv_L_66 : MV RL 66 11 yX11_who cX11_who 4 ((Option.some Jvm.ClassFile.FieldType.int)) 1 := ⟨⟨WU_of (mT6 (List.mem_of_getElem? (i := 65) rfl)) rfl, WU_of (mT6 (List.mem_of_getElem? (i := 68) rfl)) rfl, WU_of (mT1 (List.mem_of_getElem? (i := 12) rfl)) rfl, ⟨by decide +kernel, by decide +kernel, by decide +kernel⟩, by decide⟩, WU_of (mT6 (List.mem_of_getElem? (i := 66) rfl)) rfl, WU_of (mT6 (List.mem_of_getElem? (i := 67) rfl)) rfl, _, _, rfl⟩
theorem mv_L_70 : MV RL 70 11 yX11_doorstep cX11_doorstep 9 ((Option.some Jvm.ClassFile.FieldType.long)) 1 := ⟨⟨WU_of (mT6 (List.mem_of_getElem? (i := 69) rfl)) rfl, WU_of (mT6 (List.mem_of_getElem? (i := 72) rfl)) rfl, WU_of (mT1 (List.mem_of_getElem? (i := 12) rfl)) rfl, ⟨by decide +kernel, by decide +kernel, by decide +kernel⟩, by decide⟩, WU_of (mT6 (List.mem_of_getElem? (i := 70) rfl)) rfl, WU_of (mT6 (List.mem_of_getElem? (i := 71) rfl)) rfl, _, _, rfl⟩
theorem k_X11_324 : Cond.constantLong RX11 324 (-2) ∈ WU := WU_of (mT6 (List.mem_of_getElem? (i := 73) rfl)) rfl
theorem mv_L_74 : MV RL 74 11 yX11_list cX11_list 10 ((Option.some Jvm.ClassFile.FieldType.long)) 2 := ⟨⟨WU_of (mT6 (List.mem_of_getElem? (i := 74) rfl)) rfl, WU_of (mT6 (List.mem_of_getElem? (i := 77) rfl)) rfl, WU_of (mT1 (List.mem_of_getElem? (i := 12) rfl)) rfl, ⟨by decide +kernel, by decide +kernel, by decide +kernel⟩, by decide⟩, WU_of (mT6 (List.mem_of_getElem? (i := 75) rfl)) rfl, WU_of (mT6 (List.mem_of_getElem? (i := 76) rfl)) rfl, _, _, rfl⟩
theorem mv_X11_326 : MV RX11 326 11 yX11_meanBy cX11_meanBy 10 ((Option.some Jvm.ClassFile.FieldType.long)) 1 := ⟨⟨WU_of (mT6 (List.mem_of_getElem? (i := 78) rfl)) rfl, WU_of (mT6 (List.mem_of_getElem? (i := 81) rfl)) rfl, WU_of (mT1 (List.mem_of_getElem? (i := 12) rfl)) rfl, ⟨by decide +kernel, by decide +kernel, by decide +kernel⟩, by decide⟩, WU_of (mT6 (List.mem_of_getElem? (i := 80) rfl)) rfl, WU_of (mP4 (List.mem_of_getElem? (i := 12) rfl)) rfl, _, _, rfl⟩
theorem mv_L_78 : MV RL 78 11 yX11_onWith cX11_onWith 2 ((Option.some Jvm.ClassFile.FieldType.int)) 1 := ⟨⟨WU_of (mT6 (List.mem_of_getElem? (i := 82) rfl)) rfl, WU_of (mT6 (List.mem_of_getElem? (i := 85) rfl)) rfl, WU_of (mT1 (List.mem_of_getElem? (i := 12) rfl)) rfl, ⟨by decide +kernel, by decide +kernel, by decide +kernel⟩, by decide⟩, WU_of (mT6 (List.mem_of_getElem? (i := 83) rfl)) rfl, WU_of (mT6 (List.mem_of_getElem? (i := 84) rfl)) rfl, _, _, rfl⟩
theorem mv_L_82 : MV RL 82 11 yX11_judge cX11_judge 3 ((Option.some Jvm.ClassFile.FieldType.int)) 2 := ⟨⟨WU_of (mT6 (List.mem_of_getElem? (i := 86) rfl)) rfl, WU_of (mT6 (List.mem_of_getElem? (i := 89) rfl)) rfl, WU_of (mT1 (List.mem_of_getElem? (i := 12) rfl)) rfl, ⟨by decide +kernel, by decide +kernel, by decide +kernel⟩, by decide⟩, WU_of (mT6 (List.mem_of_getElem? (i := 87) rfl)) rfl, WU_of (mT6 (List.mem_of_getElem? (i := 88) rfl)) rfl, _, _, rfl⟩
theorem mv_X11_329 : MV RX11 329 11 yX11_rowFault cX11_rowFault 2 ((Option.some Jvm.ClassFile.FieldType.int)) 1 := ⟨⟨WU_of (mT6 (List.mem_of_getElem? (i := 90) rfl)) rfl, WU_of (mT6 (List.mem_of_getElem? (i := 93) rfl)) rfl, WU_of (mT1 (List.mem_of_getElem? (i := 12) rfl)) rfl, ⟨by decide +kernel, by decide +kernel, by decide +kernel⟩, by decide⟩, WU_of (mT6 (List.mem_of_getElem? (i := 92) rfl)) rfl, WU_of (mP4 (List.mem_of_getElem? (i := 13) rfl)) rfl, _, _, rfl⟩
theorem mv_X11_332 : MV RX11 332 11 yX11_wrongIn cX11_wrongIn 4 ((Option.some Jvm.ClassFile.FieldType.int)) 2 := ⟨⟨WU_of (mT6 (List.mem_of_getElem? (i := 94) rfl)) rfl, WU_of (mT6 (List.mem_of_getElem? (i := 97) rfl)) rfl, WU_of (mT1 (List.mem_of_getElem? (i := 12) rfl)) rfl, ⟨by decide +kernel, by decide +kernel, by decide +kernel⟩, by decide⟩, WU_of (mT6 (List.mem_of_getElem? (i := 96) rfl)) rfl, WU_of (mP4 (List.mem_of_getElem? (i := 14) rfl)) rfl, _, _, rfl⟩
theorem mv_L_86 : MV RL 86 11 yX11_which cX11_which 7 ((Option.some Jvm.ClassFile.FieldType.int)) 2 := ⟨⟨WU_of (mT6 (List.mem_of_getElem? (i := 98) rfl)) rfl, WU_of (mT6 (List.mem_of_getElem? (i := 101) rfl)) rfl, WU_of (mT1 (List.mem_of_getElem? (i := 12) rfl)) rfl, ⟨by decide +kernel, by decide +kernel, by decide +kernel⟩, by decide⟩, WU_of (mT6 (List.mem_of_getElem? (i := 99) rfl)) rfl, WU_of (mT6 (List.mem_of_getElem? (i := 100) rfl)) rfl, _, _, rfl⟩
theorem mv_L_90 : MV RL 90 11 yX11_first cX11_first 4 ((Option.some Jvm.ClassFile.FieldType.int)) 1 := ⟨⟨WU_of (mT6 (List.mem_of_getElem? (i := 102) rfl)) rfl, WU_of (mT6 (List.mem_of_getElem? (i := 105) rfl)) rfl, WU_of (mT1 (List.mem_of_getElem? (i := 12) rfl)) rfl, ⟨by decide +kernel, by decide +kernel, by decide +kernel⟩, by decide⟩, WU_of (mT6 (List.mem_of_getElem? (i := 103) rfl)) rfl, WU_of (mT6 (List.mem_of_getElem? (i := 104) rfl)) rfl, _, _, rfl⟩
theorem mv_L_94 : MV RL 94 11 yX11_chain cX11_chain 5 ((Option.some Jvm.ClassFile.FieldType.int)) 1 := ⟨⟨WU_of (mT6 (List.mem_of_getElem? (i := 106) rfl)) rfl, WU_of (mT6 (List.mem_of_getElem? (i := 109) rfl)) rfl, WU_of (mT1 (List.mem_of_getElem? (i := 12) rfl)) rfl, ⟨by decide +kernel, by decide +kernel, by decide +kernel⟩, by decide⟩, WU_of (mT6 (List.mem_of_getElem? (i := 107) rfl)) rfl, WU_of (mT6 (List.mem_of_getElem? (i := 108) rfl)) rfl, _, _, rfl⟩
theorem mv_L_98 : MV RL 98 11 yX11_drawn cX11_drawn 7 ((Option.some Jvm.ClassFile.FieldType.int)) 3 := ⟨⟨WU_of (mT6 (List.mem_of_getElem? (i := 110) rfl)) rfl, WU_of (mT6 (List.mem_of_getElem? (i := 113) rfl)) rfl, WU_of (mT1 (List.mem_of_getElem? (i := 12) rfl)) rfl, ⟨by decide +kernel, by decide +kernel, by decide +kernel⟩, by decide⟩, WU_of (mT6 (List.mem_of_getElem? (i := 111) rfl)) rfl, WU_of (mT6 (List.mem_of_getElem? (i := 112) rfl)) rfl, _, _, rfl⟩
theorem mv_X11_339 : MV RX11 339 11 yX11_drawSet cX11_drawSet 3 ((Option.some Jvm.ClassFile.FieldType.int)) 0 := ⟨⟨WU_of (mT6 (List.mem_of_getElem? (i := 114) rfl)) rfl, WU_of (mT6 (List.mem_of_getElem? (i := 117) rfl)) rfl, WU_of (mT1 (List.mem_of_getElem? (i := 12) rfl)) rfl, ⟨by decide +kernel, by decide +kernel, by decide +kernel⟩, by decide⟩, WU_of (mT6 (List.mem_of_getElem? (i := 116) rfl)) rfl, WU_of (mP4 (List.mem_of_getElem? (i := 15) rfl)) rfl, _, _, rfl⟩
theorem k_X11_338 : Cond.constant RX11 338 (1103515245) ∈ WU := WU_of (mT6 (List.mem_of_getElem? (i := 118) rfl)) rfl
theorem mv_L_102 : MV RL 102 11 yX11_lock cX11_lock 2 ((Option.some Jvm.ClassFile.FieldType.int)) 1 := ⟨⟨WU_of (mT6 (List.mem_of_getElem? (i := 119) rfl)) rfl, WU_of (mT6 (List.mem_of_getElem? (i := 122) rfl)) rfl, WU_of (mT1 (List.mem_of_getElem? (i := 12) rfl)) rfl, ⟨by decide +kernel, by decide +kernel, by decide +kernel⟩, by decide⟩, WU_of (mT6 (List.mem_of_getElem? (i := 120) rfl)) rfl, WU_of (mT6 (List.mem_of_getElem? (i := 121) rfl)) rfl, _, _, rfl⟩
theorem mv_X11_342 : MV RX11 342 11 yX11_takeDeed cX11_takeDeed 1 ((Option.none : Option Jvm.ClassFile.FieldType)) 0 := ⟨⟨WU_of (mT6 (List.mem_of_getElem? (i := 123) rfl)) rfl, WU_of (mT6 (List.mem_of_getElem? (i := 126) rfl)) rfl, WU_of (mT1 (List.mem_of_getElem? (i := 12) rfl)) rfl, ⟨by decide +kernel, by decide +kernel, by decide +kernel⟩, by decide⟩, WU_of (mT6 (List.mem_of_getElem? (i := 125) rfl)) rfl, WU_of (mP5 (List.mem_of_getElem? (i := 0) rfl)) rfl, _, _, rfl⟩
theorem mv_L_106 : MV RL 106 11 yX11_on cX11_on 1 ((Option.some Jvm.ClassFile.FieldType.int)) 0 := ⟨⟨WU_of (mT6 (List.mem_of_getElem? (i := 127) rfl)) rfl, WU_of (mT6 (List.mem_of_getElem? (i := 130) rfl)) rfl, WU_of (mT1 (List.mem_of_getElem? (i := 12) rfl)) rfl, ⟨by decide +kernel, by decide +kernel, by decide +kernel⟩, by decide⟩, WU_of (mT6 (List.mem_of_getElem? (i := 128) rfl)) rfl, WU_of (mT6 (List.mem_of_getElem? (i := 129) rfl)) rfl, _, _, rfl⟩
theorem mv_X11_345 : MV RX11 345 11 yX11_layDeed cX11_layDeed 1 ((Option.none : Option Jvm.ClassFile.FieldType)) 0 := ⟨⟨WU_of (mT6 (List.mem_of_getElem? (i := 131) rfl)) rfl, WU_of (mT6 (List.mem_of_getElem? (i := 134) rfl)) rfl, WU_of (mT1 (List.mem_of_getElem? (i := 12) rfl)) rfl, ⟨by decide +kernel, by decide +kernel, by decide +kernel⟩, by decide⟩, WU_of (mT6 (List.mem_of_getElem? (i := 133) rfl)) rfl, WU_of (mP5 (List.mem_of_getElem? (i := 1) rfl)) rfl, _, _, rfl⟩
theorem mv_L_110 : MV RL 110 11 yX11_led cX11_led 2 ((Option.some Jvm.ClassFile.FieldType.int)) 1 := ⟨⟨WU_of (mT6 (List.mem_of_getElem? (i := 135) rfl)) rfl, WU_of (mT6 (List.mem_of_getElem? (i := 138) rfl)) rfl, WU_of (mT1 (List.mem_of_getElem? (i := 12) rfl)) rfl, ⟨by decide +kernel, by decide +kernel, by decide +kernel⟩, by decide⟩, WU_of (mT6 (List.mem_of_getElem? (i := 136) rfl)) rfl, WU_of (mT6 (List.mem_of_getElem? (i := 137) rfl)) rfl, _, _, rfl⟩
theorem mv_L_114 : MV RL 114 11 yX11_image cX11_image 2 ((Option.some Jvm.ClassFile.FieldType.int)) 0 := ⟨⟨WU_of (mT6 (List.mem_of_getElem? (i := 139) rfl)) rfl, WU_of (mT6 (List.mem_of_getElem? (i := 142) rfl)) rfl, WU_of (mT1 (List.mem_of_getElem? (i := 12) rfl)) rfl, ⟨by decide +kernel, by decide +kernel, by decide +kernel⟩, by decide⟩, WU_of (mT6 (List.mem_of_getElem? (i := 140) rfl)) rfl, WU_of (mT6 (List.mem_of_getElem? (i := 141) rfl)) rfl, _, _, rfl⟩
theorem mv_L_118 : MV RL 118 11 yX11_back cX11_back 2 ((Option.some Jvm.ClassFile.FieldType.int)) 0 := ⟨⟨WU_of (mT6 (List.mem_of_getElem? (i := 143) rfl)) rfl, WU_of (mT6 (List.mem_of_getElem? (i := 146) rfl)) rfl, WU_of (mT1 (List.mem_of_getElem? (i := 12) rfl)) rfl, ⟨by decide +kernel, by decide +kernel, by decide +kernel⟩, by decide⟩, WU_of (mT6 (List.mem_of_getElem? (i := 144) rfl)) rfl, WU_of (mT6 (List.mem_of_getElem? (i := 145) rfl)) rfl, _, _, rfl⟩
theorem mv_L_138 : MV RL 138 11 yX11_trace cX11_trace 2 ((Option.some Jvm.ClassFile.FieldType.int)) 1 := ⟨⟨WU_of (mT6 (List.mem_of_getElem? (i := 147) rfl)) rfl, WU_of (mT6 (List.mem_of_getElem? (i := 150) rfl)) rfl, WU_of (mT1 (List.mem_of_getElem? (i := 12) rfl)) rfl, ⟨by decide +kernel, by decide +kernel, by decide +kernel⟩, by decide⟩, WU_of (mT6 (List.mem_of_getElem? (i := 148) rfl)) rfl, WU_of (mT6 (List.mem_of_getElem? (i := 149) rfl)) rfl, _, _, rfl⟩
theorem mv_L_130 : MV RL 130 11 yX11_body cX11_body 2 ((Option.some Jvm.ClassFile.FieldType.int)) 1 := ⟨⟨WU_of (mT6 (List.mem_of_getElem? (i := 151) rfl)) rfl, WU_of (mT6 (List.mem_of_getElem? (i := 154) rfl)) rfl, WU_of (mT1 (List.mem_of_getElem? (i := 12) rfl)) rfl, ⟨by decide +kernel, by decide +kernel, by decide +kernel⟩, by decide⟩, WU_of (mT6 (List.mem_of_getElem? (i := 152) rfl)) rfl, WU_of (mT6 (List.mem_of_getElem? (i := 153) rfl)) rfl, _, _, rfl⟩
theorem mv_L_134 : MV RL 134 11 yX11_act cX11_act 4 ((Option.some Jvm.ClassFile.FieldType.int)) 3 := ⟨⟨WU_of (mT6 (List.mem_of_getElem? (i := 155) rfl)) rfl, WU_of (mT6 (List.mem_of_getElem? (i := 158) rfl)) rfl, WU_of (mT1 (List.mem_of_getElem? (i := 12) rfl)) rfl, ⟨by decide +kernel, by decide +kernel, by decide +kernel⟩, by decide⟩, WU_of (mT6 (List.mem_of_getElem? (i := 156) rfl)) rfl, WU_of (mT6 (List.mem_of_getElem? (i := 157) rfl)) rfl, _, _, rfl⟩
theorem mv_X11_393 : MV RX11 393 11 yX11_isBody cX11_isBody 2 ((Option.some Jvm.ClassFile.FieldType.boolean)) 1 := ⟨⟨WU_of (mT6 (List.mem_of_getElem? (i := 159) rfl)) rfl, WU_of (mT6 (List.mem_of_getElem? (i := 162) rfl)) rfl, WU_of (mT1 (List.mem_of_getElem? (i := 12) rfl)) rfl, ⟨by decide +kernel, by decide +kernel, by decide +kernel⟩, by decide⟩, WU_of (mT6 (List.mem_of_getElem? (i := 161) rfl)) rfl, WU_of (mP5 (List.mem_of_getElem? (i := 2) rfl)) rfl, _, _, rfl⟩
theorem mv_X11_369 : MV RX11 369 11 yX11_goesOf cX11_goesOf 3 ((Option.some Jvm.ClassFile.FieldType.int)) 2 := ⟨⟨WU_of (mT6 (List.mem_of_getElem? (i := 163) rfl)) rfl, WU_of (mT6 (List.mem_of_getElem? (i := 166) rfl)) rfl, WU_of (mT1 (List.mem_of_getElem? (i := 12) rfl)) rfl, ⟨by decide +kernel, by decide +kernel, by decide +kernel⟩, by decide⟩, WU_of (mT6 (List.mem_of_getElem? (i := 165) rfl)) rfl, WU_of (mP5 (List.mem_of_getElem? (i := 3) rfl)) rfl, _, _, rfl⟩
theorem ms_X11_363 : MS RX11 363 yX11_isUnder cX11_isUnder 2 ((Option.some Jvm.ClassFile.FieldType.boolean)) 2 := ⟨⟨WU_of (mT6 (List.mem_of_getElem? (i := 167) rfl)) rfl, WU_of (mT6 (List.mem_of_getElem? (i := 169) rfl)) rfl, WU_of (mT1 (List.mem_of_getElem? (i := 12) rfl)) rfl, ⟨by decide +kernel, by decide +kernel, by decide +kernel⟩, by decide⟩, WU_of (mT6 (List.mem_of_getElem? (i := 168) rfl)) rfl⟩
theorem mv_X11_357 : MV RX11 357 11 yX11_ran cX11_ran 2 ((Option.none : Option Jvm.ClassFile.FieldType)) 1 := ⟨⟨WU_of (mT6 (List.mem_of_getElem? (i := 170) rfl)) rfl, WU_of (mT6 (List.mem_of_getElem? (i := 173) rfl)) rfl, WU_of (mT1 (List.mem_of_getElem? (i := 12) rfl)) rfl, ⟨by decide +kernel, by decide +kernel, by decide +kernel⟩, by decide⟩, WU_of (mT6 (List.mem_of_getElem? (i := 172) rfl)) rfl, WU_of (mP5 (List.mem_of_getElem? (i := 4) rfl)) rfl, _, _, rfl⟩
theorem mv_X11_360 : MV RX11 360 11 yX11_plainGoes cX11_plainGoes 3 ((Option.some Jvm.ClassFile.FieldType.int)) 2 := ⟨⟨WU_of (mT6 (List.mem_of_getElem? (i := 174) rfl)) rfl, WU_of (mT6 (List.mem_of_getElem? (i := 177) rfl)) rfl, WU_of (mT1 (List.mem_of_getElem? (i := 12) rfl)) rfl, ⟨by decide +kernel, by decide +kernel, by decide +kernel⟩, by decide⟩, WU_of (mT6 (List.mem_of_getElem? (i := 176) rfl)) rfl, WU_of (mP5 (List.mem_of_getElem? (i := 5) rfl)) rfl, _, _, rfl⟩
theorem mv_X11_366 : MV RX11 366 11 yX11_leftGoes cX11_leftGoes 3 ((Option.some Jvm.ClassFile.FieldType.int)) 2 := ⟨⟨WU_of (mT6 (List.mem_of_getElem? (i := 178) rfl)) rfl, WU_of (mT6 (List.mem_of_getElem? (i := 181) rfl)) rfl, WU_of (mT1 (List.mem_of_getElem? (i := 12) rfl)) rfl, ⟨by decide +kernel, by decide +kernel, by decide +kernel⟩, by decide⟩, WU_of (mT6 (List.mem_of_getElem? (i := 180) rfl)) rfl, WU_of (mP5 (List.mem_of_getElem? (i := 6) rfl)) rfl, _, _, rfl⟩
theorem mv_X11_387 : MV RX11 387 11 yX11_finding cX11_finding 4 ((Option.some Jvm.ClassFile.FieldType.int)) 2 := ⟨⟨WU_of (mT6 (List.mem_of_getElem? (i := 182) rfl)) rfl, WU_of (mT6 (List.mem_of_getElem? (i := 185) rfl)) rfl, WU_of (mT1 (List.mem_of_getElem? (i := 12) rfl)) rfl, ⟨by decide +kernel, by decide +kernel, by decide +kernel⟩, by decide⟩, WU_of (mT6 (List.mem_of_getElem? (i := 184) rfl)) rfl, WU_of (mP5 (List.mem_of_getElem? (i := 7) rfl)) rfl, _, _, rfl⟩
theorem mv_X11_375 : MV RX11 375 11 yX11_longFinds cX11_longFinds 3 ((Option.some Jvm.ClassFile.FieldType.int)) 2 := ⟨⟨WU_of (mT6 (List.mem_of_getElem? (i := 186) rfl)) rfl, WU_of (mT6 (List.mem_of_getElem? (i := 189) rfl)) rfl, WU_of (mT1 (List.mem_of_getElem? (i := 12) rfl)) rfl, ⟨by decide +kernel, by decide +kernel, by decide +kernel⟩, by decide⟩, WU_of (mT6 (List.mem_of_getElem? (i := 188) rfl)) rfl, WU_of (mP5 (List.mem_of_getElem? (i := 8) rfl)) rfl, _, _, rfl⟩
theorem mv_X11_372 : MV RX11 372 11 yX11_plainFinds cX11_plainFinds 3 ((Option.some Jvm.ClassFile.FieldType.int)) 2 := ⟨⟨WU_of (mT6 (List.mem_of_getElem? (i := 190) rfl)) rfl, WU_of (mT6 (List.mem_of_getElem? (i := 193) rfl)) rfl, WU_of (mT1 (List.mem_of_getElem? (i := 12) rfl)) rfl, ⟨by decide +kernel, by decide +kernel, by decide +kernel⟩, by decide⟩, WU_of (mT6 (List.mem_of_getElem? (i := 192) rfl)) rfl, WU_of (mP5 (List.mem_of_getElem? (i := 9) rfl)) rfl, _, _, rfl⟩
theorem mv_X11_378 : MV RX11 378 11 yX11_setting cX11_setting 4 ((Option.some Jvm.ClassFile.FieldType.int)) 2 := ⟨⟨WU_of (mT6 (List.mem_of_getElem? (i := 194) rfl)) rfl, WU_of (mT6 (List.mem_of_getElem? (i := 197) rfl)) rfl, WU_of (mT1 (List.mem_of_getElem? (i := 12) rfl)) rfl, ⟨by decide +kernel, by decide +kernel, by decide +kernel⟩, by decide⟩, WU_of (mT6 (List.mem_of_getElem? (i := 196) rfl)) rfl, WU_of (mP5 (List.mem_of_getElem? (i := 10) rfl)) rfl, _, _, rfl⟩
theorem mv_X11_384 : MV RX11 384 11 yX11_offSets cX11_offSets 3 ((Option.some Jvm.ClassFile.FieldType.int)) 2 := ⟨⟨WU_of (mT6 (List.mem_of_getElem? (i := 198) rfl)) rfl, WU_of (mT6 (List.mem_of_getElem? (i := 201) rfl)) rfl, WU_of (mT1 (List.mem_of_getElem? (i := 12) rfl)) rfl, ⟨by decide +kernel, by decide +kernel, by decide +kernel⟩, by decide⟩, WU_of (mT6 (List.mem_of_getElem? (i := 200) rfl)) rfl, WU_of (mP5 (List.mem_of_getElem? (i := 11) rfl)) rfl, _, _, rfl⟩
theorem mv_X11_381 : MV RX11 381 11 yX11_plainSets cX11_plainSets 3 ((Option.some Jvm.ClassFile.FieldType.int)) 2 := ⟨⟨WU_of (mT6 (List.mem_of_getElem? (i := 202) rfl)) rfl, WU_of (mT6 (List.mem_of_getElem? (i := 205) rfl)) rfl, WU_of (mT1 (List.mem_of_getElem? (i := 12) rfl)) rfl, ⟨by decide +kernel, by decide +kernel, by decide +kernel⟩, by decide⟩, WU_of (mT6 (List.mem_of_getElem? (i := 204) rfl)) rfl, WU_of (mP5 (List.mem_of_getElem? (i := 12) rfl)) rfl, _, _, rfl⟩
theorem mv_X11_396 : MV RX11 396 11 yX11_telling cX11_telling 3 ((Option.some Jvm.ClassFile.FieldType.int)) 2 := ⟨⟨WU_of (mT6 (List.mem_of_getElem? (i := 206) rfl)) rfl, WU_of (mT6 (List.mem_of_getElem? (i := 209) rfl)) rfl, WU_of (mT1 (List.mem_of_getElem? (i := 12) rfl)) rfl, ⟨by decide +kernel, by decide +kernel, by decide +kernel⟩, by decide⟩, WU_of (mT6 (List.mem_of_getElem? (i := 208) rfl)) rfl, WU_of (mP5 (List.mem_of_getElem? (i := 13) rfl)) rfl, _, _, rfl⟩
theorem mv_X11_390 : MV RX11 390 11 yX11_plainTells cX11_plainTells 4 ((Option.some Jvm.ClassFile.FieldType.int)) 2 := ⟨⟨WU_of (mT6 (List.mem_of_getElem? (i := 210) rfl)) rfl, WU_of (mT6 (List.mem_of_getElem? (i := 213) rfl)) rfl, WU_of (mT1 (List.mem_of_getElem? (i := 12) rfl)) rfl, ⟨by decide +kernel, by decide +kernel, by decide +kernel⟩, by decide⟩, WU_of (mT6 (List.mem_of_getElem? (i := 212) rfl)) rfl, WU_of (mP5 (List.mem_of_getElem? (i := 14) rfl)) rfl, _, _, rfl⟩
theorem mv_L_170 : MV RL 170 11 yX11_count cX11_count 2 ((Option.some Jvm.ClassFile.FieldType.int)) 1 := ⟨⟨WU_of (mT6 (List.mem_of_getElem? (i := 214) rfl)) rfl, WU_of (mT6 (List.mem_of_getElem? (i := 217) rfl)) rfl, WU_of (mT1 (List.mem_of_getElem? (i := 12) rfl)) rfl, ⟨by decide +kernel, by decide +kernel, by decide +kernel⟩, by decide⟩, WU_of (mT6 (List.mem_of_getElem? (i := 215) rfl)) rfl, WU_of (mT6 (List.mem_of_getElem? (i := 216) rfl)) rfl, _, _, rfl⟩
theorem mv_L_142 : MV RL 142 11 yX11_keep cX11_keep 3 ((Option.some Jvm.ClassFile.FieldType.int)) 2 := ⟨⟨WU_of (mT6 (List.mem_of_getElem? (i := 218) rfl)) rfl, WU_of (mT6 (List.mem_of_getElem? (i := 221) rfl)) rfl, WU_of (mT1 (List.mem_of_getElem? (i := 12) rfl)) rfl, ⟨by decide +kernel, by decide +kernel, by decide +kernel⟩, by decide⟩, WU_of (mT6 (List.mem_of_getElem? (i := 219) rfl)) rfl, WU_of (mT6 (List.mem_of_getElem? (i := 220) rfl)) rfl, _, _, rfl⟩
theorem mv_L_146 : MV RL 146 11 yX11_row cX11_row 5 ((Option.some Jvm.ClassFile.FieldType.int)) 3 := ⟨⟨WU_of (mT6 (List.mem_of_getElem? (i := 222) rfl)) rfl, WU_of (mT6 (List.mem_of_getElem? (i := 225) rfl)) rfl, WU_of (mT1 (List.mem_of_getElem? (i := 12) rfl)) rfl, ⟨by decide +kernel, by decide +kernel, by decide +kernel⟩, by decide⟩, WU_of (mT6 (List.mem_of_getElem? (i := 223) rfl)) rfl, WU_of (mT6 (List.mem_of_getElem? (i := 224) rfl)) rfl, _, _, rfl⟩
theorem mv_L_153 : MV RL 153 11 yX11_put cX11_put 7 ((Option.some Jvm.ClassFile.FieldType.int)) 3 := ⟨⟨WU_of (mT6 (List.mem_of_getElem? (i := 226) rfl)) rfl, WU_of (mT6 (List.mem_of_getElem? (i := 229) rfl)) rfl, WU_of (mT1 (List.mem_of_getElem? (i := 12) rfl)) rfl, ⟨by decide +kernel, by decide +kernel, by decide +kernel⟩, by decide⟩, WU_of (mT6 (List.mem_of_getElem? (i := 227) rfl)) rfl, WU_of (mT6 (List.mem_of_getElem? (i := 228) rfl)) rfl, _, _, rfl⟩
theorem mv_X11_399 : MV RX11 399 11 yX11_whyNoPlace cX11_whyNoPlace 3 ((Option.some Jvm.ClassFile.FieldType.int)) 2 := ⟨⟨WU_of (mT6 (List.mem_of_getElem? (i := 230) rfl)) rfl, WU_of (mT6 (List.mem_of_getElem? (i := 233) rfl)) rfl, WU_of (mT1 (List.mem_of_getElem? (i := 12) rfl)) rfl, ⟨by decide +kernel, by decide +kernel, by decide +kernel⟩, by decide⟩, WU_of (mT6 (List.mem_of_getElem? (i := 232) rfl)) rfl, WU_of (mP5 (List.mem_of_getElem? (i := 15) rfl)) rfl, _, _, rfl⟩
theorem mv_L_157 : MV RL 157 11 yX11_element cX11_element 3 ((Option.some Jvm.ClassFile.FieldType.long)) 2 := ⟨⟨WU_of (mT6 (List.mem_of_getElem? (i := 234) rfl)) rfl, WU_of (mT6 (List.mem_of_getElem? (i := 237) rfl)) rfl, WU_of (mT1 (List.mem_of_getElem? (i := 12) rfl)) rfl, ⟨by decide +kernel, by decide +kernel, by decide +kernel⟩, by decide⟩, WU_of (mT6 (List.mem_of_getElem? (i := 235) rfl)) rfl, WU_of (mT6 (List.mem_of_getElem? (i := 236) rfl)) rfl, _, _, rfl⟩
theorem mv_L_162 : MV RL 162 11 yX11_shift cX11_shift 7 ((Option.some Jvm.ClassFile.FieldType.int)) 5 := ⟨⟨WU_of (mT6 (List.mem_of_getElem? (i := 238) rfl)) rfl, WU_of (mT7 (List.mem_of_getElem? (i := 1) rfl)) rfl, WU_of (mT1 (List.mem_of_getElem? (i := 12) rfl)) rfl, ⟨by decide +kernel, by decide +kernel, by decide +kernel⟩, by decide⟩, WU_of (mT6 (List.mem_of_getElem? (i := 239) rfl)) rfl, WU_of (mT7 (List.mem_of_getElem? (i := 0) rfl)) rfl, _, _, rfl⟩
theorem mv_L_166 : MV RL 166 11 yX11_taken cX11_taken 3 ((Option.some Jvm.ClassFile.FieldType.int)) 2 := ⟨⟨WU_of (mT7 (List.mem_of_getElem? (i := 2) rfl)) rfl, WU_of (mT7 (List.mem_of_getElem? (i := 5) rfl)) rfl, WU_of (mT1 (List.mem_of_getElem? (i := 12) rfl)) rfl, ⟨by decide +kernel, by decide +kernel, by decide +kernel⟩, by decide⟩, WU_of (mT7 (List.mem_of_getElem? (i := 3) rfl)) rfl, WU_of (mT7 (List.mem_of_getElem? (i := 4) rfl)) rfl, _, _, rfl⟩
theorem k_L_147 : Cond.constantLong RL 147 (4294967295) ∈ WU := WU_of (mT7 (List.mem_of_getElem? (i := 6) rfl)) rfl
end
section
/-! the class's world: W the table of numbers (a row each), g h what lasts, Dv the drives (thought, the table's, the journey's, the image), Sh the shelves, u v z y what each call makes anew -/
def hx (ad tc : Nat → Nat) (W : Nat → Nat → Int32) (g : Nat → Int32) (h : Nat → Nat → Int32) (Dv : Nat → (Nat → Int32) × (Nat → Nat → Int32)) (Sh : Nat → (Nat → Int32) × (Nat → Int64)) (u : Nat → Int32) (v : Nat → Nat → Int32) (z : Int64) (y : Nat → Int64) : va_W :=
  [(ad 0, .inr (10, [.ref (ad 1), .ref (ad 16), .ref (ad 21), .ref (ad 36), .ref (ad 25), .ref (ad 30), .ref (ad 31), .ref (ad 32), .ref (ad 35)])),
   (ad 1, .inr (9, [.ref (ad 2), .ref (ad 11), .int (g 0), .int (g 1)])),
   (ad 2, .inl (tc 4, 8, .inr (.inr (.inr (.inr (fun j => if j < 8 then some (ad (3 + j)) else none)))))),
   (ad 3, .inl (tc 0, 8, .inl (W 0))),
   (ad 4, .inl (tc 0, 8, .inl (W 1))),
   (ad 5, .inl (tc 0, 8, .inl (W 2))),
   (ad 6, .inl (tc 0, 8, .inl (W 3))),
   (ad 7, .inl (tc 0, 8, .inl (W 4))),
   (ad 8, .inl (tc 0, 8, .inl (W 5))),
   (ad 9, .inl (tc 0, 8, .inl (W 6))),
   (ad 10, .inl (tc 0, 8, .inl (W 7))),
   (ad 11, .inr (5, [.ref (ad 12), .ref (ad 13), .ref (ad 14), .ref (ad 15), .int (g 2)])),
   (ad 12, .inl (tc 0, 128, .inl (h 0))),
   (ad 13, .inl (tc 0, 128, .inl (h 1))),
   (ad 14, .inl (tc 0, 130, .inl (v 0))),
   (ad 15, .inl (tc 0, 5, .inl (v 1))),
   (ad 16, .inr (1, [.ref (ad 17), .ref (ad 18), .ref (ad 19), .ref (ad 20), .int (g 3), .int (g 4)])),
   (ad 17, .inl (tc 0, 40, .inl (h 2))),
   (ad 18, .inl (tc 0, 40, .inl (h 3))),
   (ad 19, .inl (tc 0, 40, .inl (h 4))),
   (ad 20, .inl (tc 0, 40, .inl (h 5))),
   (ad 21, .inr (6, [.ref (ad 22), .ref (ad 23), .ref (ad 24), .int (g 5), .int (u 0), .int (u 1), .int (u 2)])),
   (ad 22, .inl (tc 0, 120, .inl (h 6))),
   (ad 23, .inl (tc 0, 128, .inl (v 2))),
   (ad 24, .inl (tc 0, 128, .inl (v 3))),
   (ad 25, .inr (8, [.ref (ad 1), .ref (ad 40), .ref (ad 26), .ref (ad 27), .ref (ad 28), .ref (ad 29), .long (z), .int (u 3)])),
   (ad 26, .inl (tc 0, 256, .inl (v 4))),
   (ad 27, .inl (tc 0, 256, .inl (v 5))),
   (ad 28, .inl (tc 0, 256, .inl (v 6))),
   (ad 29, .inl (tc 1, 256, .inr (.inl (y)))),
   (ad 30, .inr (2, [.int (u 4)])),
   (ad 31, .inr (4, [.ref (ad 44), .ref (ad 48), .int (g 6), .int (g 7), .int (g 8), .int (g 9), .int (g 10)])),
   (ad 32, .inr (0, [.ref (ad 33), .ref (ad 34), .int (g 11), .int (g 12)])),
   (ad 33, .inl (tc 0, 50, .inl (h 7))),
   (ad 34, .inl (tc 0, 24, .inl (h 8))),
   (ad 35, .inl (tc 5, 6, .inr (.inr (.inr (.inr (fun j => if j < 6 then some (ad (52 + 2 * j)) else none)))))),
   (ad 36, .inr (3, [.ref (ad 1), .ref (ad 37), .ref (ad 38), .ref (ad 39), .int ((Dv 0).1 0), .int ((Dv 0).1 1), .int ((Dv 0).1 2), .int ((Dv 0).1 3), .int ((Dv 0).1 4), .int ((Dv 0).1 5), .int ((Dv 0).1 6), .int ((Dv 0).1 7), .int ((Dv 0).1 8)])),
   (ad 37, .inl (tc 0, 8, .inl ((Dv 0).2 0))),
   (ad 38, .inl (tc 0, 8, .inl ((Dv 0).2 1))),
   (ad 39, .inl (tc 0, 8, .inl ((Dv 0).2 2))),
   (ad 40, .inr (3, [.ref (ad 1), .ref (ad 41), .ref (ad 42), .ref (ad 43), .int ((Dv 1).1 0), .int ((Dv 1).1 1), .int ((Dv 1).1 2), .int ((Dv 1).1 3), .int ((Dv 1).1 4), .int ((Dv 1).1 5), .int ((Dv 1).1 6), .int ((Dv 1).1 7), .int ((Dv 1).1 8)])),
   (ad 41, .inl (tc 0, 8, .inl ((Dv 1).2 0))),
   (ad 42, .inl (tc 0, 8, .inl ((Dv 1).2 1))),
   (ad 43, .inl (tc 0, 8, .inl ((Dv 1).2 2))),
   (ad 44, .inr (3, [.ref (ad 1), .ref (ad 45), .ref (ad 46), .ref (ad 47), .int ((Dv 2).1 0), .int ((Dv 2).1 1), .int ((Dv 2).1 2), .int ((Dv 2).1 3), .int ((Dv 2).1 4), .int ((Dv 2).1 5), .int ((Dv 2).1 6), .int ((Dv 2).1 7), .int ((Dv 2).1 8)])),
   (ad 45, .inl (tc 0, 8, .inl ((Dv 2).2 0))),
   (ad 46, .inl (tc 0, 8, .inl ((Dv 2).2 1))),
   (ad 47, .inl (tc 0, 8, .inl ((Dv 2).2 2))),
   (ad 48, .inr (3, [.ref (ad 1), .ref (ad 49), .ref (ad 50), .ref (ad 51), .int ((Dv 3).1 0), .int ((Dv 3).1 1), .int ((Dv 3).1 2), .int ((Dv 3).1 3), .int ((Dv 3).1 4), .int ((Dv 3).1 5), .int ((Dv 3).1 6), .int ((Dv 3).1 7), .int ((Dv 3).1 8)])),
   (ad 49, .inl (tc 0, 8, .inl ((Dv 3).2 0))),
   (ad 50, .inl (tc 0, 8, .inl ((Dv 3).2 1))),
   (ad 51, .inl (tc 0, 8, .inl ((Dv 3).2 2))),
   (ad 52, .inr (7, [.ref (ad 53), .int ((Sh 0).1 0), .int ((Sh 0).1 1), .int ((Sh 0).1 2), .int ((Sh 0).1 3)])),
   (ad 53, .inl (tc 1, 60, .inr (.inl ((Sh 0).2)))),
   (ad 54, .inr (7, [.ref (ad 55), .int ((Sh 1).1 0), .int ((Sh 1).1 1), .int ((Sh 1).1 2), .int ((Sh 1).1 3)])),
   (ad 55, .inl (tc 1, 60, .inr (.inl ((Sh 1).2)))),
   (ad 56, .inr (7, [.ref (ad 57), .int ((Sh 2).1 0), .int ((Sh 2).1 1), .int ((Sh 2).1 2), .int ((Sh 2).1 3)])),
   (ad 57, .inl (tc 1, 60, .inr (.inl ((Sh 2).2)))),
   (ad 58, .inr (7, [.ref (ad 59), .int ((Sh 3).1 0), .int ((Sh 3).1 1), .int ((Sh 3).1 2), .int ((Sh 3).1 3)])),
   (ad 59, .inl (tc 1, 60, .inr (.inl ((Sh 3).2)))),
   (ad 60, .inr (7, [.ref (ad 61), .int ((Sh 4).1 0), .int ((Sh 4).1 1), .int ((Sh 4).1 2), .int ((Sh 4).1 3)])),
   (ad 61, .inl (tc 1, 60, .inr (.inl ((Sh 4).2)))),
   (ad 62, .inr (7, [.ref (ad 63), .int ((Sh 5).1 0), .int ((Sh 5).1 1), .int ((Sh 5).1 2), .int ((Sh 5).1 3)])),
   (ad 63, .inl (tc 1, 60, .inr (.inl ((Sh 5).2))))]
section WORLD
variable {p : Program} {l : Launch} {e : Env} {R : Room} {s : State} {m : MethodId} {args : Array Value} {below : List Frame} {meth : Method} {c : Code} {cells slots : Nat} {Q : State → Prop} {D : va_G} {tc tt : Nat → Nat} {A : Nat → Prop} {own : String} {cc : ByteArray} {nL d pc : Nat} {lv : List (Nat × Value)} {rest : List Value} {ad : Nat → Nat} {W : Nat → Nat → Int32} {g : Nat → Int32} {h : Nat → Nat → Int32} {Dv : Nat → (Nat → Int32) × (Nat → Nat → Int32)} {Sh : Nat → (Nat → Int32) × (Nat → Int64)} {u : Nat → Int32} {v : Nat → Nat → Int32} {z : Int64} {y : Nat → Int64}
theorem xg_10_0 (C : Cx p R s m args c own cc nL D tc tt A d) {idx : Nat} {ty : FieldType} (hd : decode cc pc = .ok (.getfield idx, 3)) (F : FL own idx 10 0 ty) (k : Ev p l e R s m args below meth c cells slots Q D A nL (hx ad tc W g h Dv Sh u v z y) (pc + 3) lv (.ref (ad 1) :: rest)) : Ev p l e R s m args below meth c cells slots Q D A nL (hx ad tc W g h Dv Sh u v z y) pc lv (.ref (ad 0) :: rest) :=
  E_get C hd F 0 rfl rfl k
theorem xg_10_1 (C : Cx p R s m args c own cc nL D tc tt A d) {idx : Nat} {ty : FieldType} (hd : decode cc pc = .ok (.getfield idx, 3)) (F : FL own idx 10 1 ty) (k : Ev p l e R s m args below meth c cells slots Q D A nL (hx ad tc W g h Dv Sh u v z y) (pc + 3) lv (.ref (ad 16) :: rest)) : Ev p l e R s m args below meth c cells slots Q D A nL (hx ad tc W g h Dv Sh u v z y) pc lv (.ref (ad 0) :: rest) :=
  E_get C hd F 0 rfl rfl k
theorem xg_10_2 (C : Cx p R s m args c own cc nL D tc tt A d) {idx : Nat} {ty : FieldType} (hd : decode cc pc = .ok (.getfield idx, 3)) (F : FL own idx 10 2 ty) (k : Ev p l e R s m args below meth c cells slots Q D A nL (hx ad tc W g h Dv Sh u v z y) (pc + 3) lv (.ref (ad 21) :: rest)) : Ev p l e R s m args below meth c cells slots Q D A nL (hx ad tc W g h Dv Sh u v z y) pc lv (.ref (ad 0) :: rest) :=
  E_get C hd F 0 rfl rfl k
theorem xg_10_3 (C : Cx p R s m args c own cc nL D tc tt A d) {idx : Nat} {ty : FieldType} (hd : decode cc pc = .ok (.getfield idx, 3)) (F : FL own idx 10 3 ty) (k : Ev p l e R s m args below meth c cells slots Q D A nL (hx ad tc W g h Dv Sh u v z y) (pc + 3) lv (.ref (ad 36) :: rest)) : Ev p l e R s m args below meth c cells slots Q D A nL (hx ad tc W g h Dv Sh u v z y) pc lv (.ref (ad 0) :: rest) :=
  E_get C hd F 0 rfl rfl k
theorem xg_10_4 (C : Cx p R s m args c own cc nL D tc tt A d) {idx : Nat} {ty : FieldType} (hd : decode cc pc = .ok (.getfield idx, 3)) (F : FL own idx 10 4 ty) (k : Ev p l e R s m args below meth c cells slots Q D A nL (hx ad tc W g h Dv Sh u v z y) (pc + 3) lv (.ref (ad 25) :: rest)) : Ev p l e R s m args below meth c cells slots Q D A nL (hx ad tc W g h Dv Sh u v z y) pc lv (.ref (ad 0) :: rest) :=
  E_get C hd F 0 rfl rfl k
theorem xg_10_5 (C : Cx p R s m args c own cc nL D tc tt A d) {idx : Nat} {ty : FieldType} (hd : decode cc pc = .ok (.getfield idx, 3)) (F : FL own idx 10 5 ty) (k : Ev p l e R s m args below meth c cells slots Q D A nL (hx ad tc W g h Dv Sh u v z y) (pc + 3) lv (.ref (ad 30) :: rest)) : Ev p l e R s m args below meth c cells slots Q D A nL (hx ad tc W g h Dv Sh u v z y) pc lv (.ref (ad 0) :: rest) :=
  E_get C hd F 0 rfl rfl k
theorem xg_10_6 (C : Cx p R s m args c own cc nL D tc tt A d) {idx : Nat} {ty : FieldType} (hd : decode cc pc = .ok (.getfield idx, 3)) (F : FL own idx 10 6 ty) (k : Ev p l e R s m args below meth c cells slots Q D A nL (hx ad tc W g h Dv Sh u v z y) (pc + 3) lv (.ref (ad 31) :: rest)) : Ev p l e R s m args below meth c cells slots Q D A nL (hx ad tc W g h Dv Sh u v z y) pc lv (.ref (ad 0) :: rest) :=
  E_get C hd F 0 rfl rfl k
theorem xg_10_7 (C : Cx p R s m args c own cc nL D tc tt A d) {idx : Nat} {ty : FieldType} (hd : decode cc pc = .ok (.getfield idx, 3)) (F : FL own idx 10 7 ty) (k : Ev p l e R s m args below meth c cells slots Q D A nL (hx ad tc W g h Dv Sh u v z y) (pc + 3) lv (.ref (ad 32) :: rest)) : Ev p l e R s m args below meth c cells slots Q D A nL (hx ad tc W g h Dv Sh u v z y) pc lv (.ref (ad 0) :: rest) :=
  E_get C hd F 0 rfl rfl k
theorem xg_10_8 (C : Cx p R s m args c own cc nL D tc tt A d) {idx : Nat} {ty : FieldType} (hd : decode cc pc = .ok (.getfield idx, 3)) (F : FL own idx 10 8 ty) (k : Ev p l e R s m args below meth c cells slots Q D A nL (hx ad tc W g h Dv Sh u v z y) (pc + 3) lv (.ref (ad 35) :: rest)) : Ev p l e R s m args below meth c cells slots Q D A nL (hx ad tc W g h Dv Sh u v z y) pc lv (.ref (ad 0) :: rest) :=
  E_get C hd F 0 rfl rfl k
theorem xg_9_0 (C : Cx p R s m args c own cc nL D tc tt A d) {idx : Nat} {ty : FieldType} (hd : decode cc pc = .ok (.getfield idx, 3)) (F : FL own idx 9 0 ty) (k : Ev p l e R s m args below meth c cells slots Q D A nL (hx ad tc W g h Dv Sh u v z y) (pc + 3) lv (.ref (ad 2) :: rest)) : Ev p l e R s m args below meth c cells slots Q D A nL (hx ad tc W g h Dv Sh u v z y) pc lv (.ref (ad 1) :: rest) :=
  E_get C hd F 1 rfl rfl k
theorem xg_9_1 (C : Cx p R s m args c own cc nL D tc tt A d) {idx : Nat} {ty : FieldType} (hd : decode cc pc = .ok (.getfield idx, 3)) (F : FL own idx 9 1 ty) (k : Ev p l e R s m args below meth c cells slots Q D A nL (hx ad tc W g h Dv Sh u v z y) (pc + 3) lv (.ref (ad 11) :: rest)) : Ev p l e R s m args below meth c cells slots Q D A nL (hx ad tc W g h Dv Sh u v z y) pc lv (.ref (ad 1) :: rest) :=
  E_get C hd F 1 rfl rfl k
theorem xg_9_2 (C : Cx p R s m args c own cc nL D tc tt A d) {idx : Nat} {ty : FieldType} (hd : decode cc pc = .ok (.getfield idx, 3)) (F : FL own idx 9 2 ty) (k : Ev p l e R s m args below meth c cells slots Q D A nL (hx ad tc W g h Dv Sh u v z y) (pc + 3) lv (.int (g 0) :: rest)) : Ev p l e R s m args below meth c cells slots Q D A nL (hx ad tc W g h Dv Sh u v z y) pc lv (.ref (ad 1) :: rest) :=
  E_get C hd F 1 rfl rfl k
theorem xp_9_2 (C : Cx p R s m args c own cc nL D tc tt A d) {idx : Nat} {w : Int32} (hd : decode cc pc = .ok (.putfield idx, 3)) (F : FLw own idx 9 2 .int) (k : Ev p l e R s m args below meth c cells slots Q D A nL (hx ad tc W (va_up g 0 w) h Dv Sh u v z y) (pc + 3) lv rest) : Ev p l e R s m args below meth c cells slots Q D A nL (hx ad tc W g h Dv Sh u v z y) pc lv (.int w :: .ref (ad 1) :: rest) :=
  E_put C hd F 1 rfl rfl rfl (Nat.le_of_ble_eq_true rfl) rfl k
theorem xg_9_3 (C : Cx p R s m args c own cc nL D tc tt A d) {idx : Nat} {ty : FieldType} (hd : decode cc pc = .ok (.getfield idx, 3)) (F : FL own idx 9 3 ty) (k : Ev p l e R s m args below meth c cells slots Q D A nL (hx ad tc W g h Dv Sh u v z y) (pc + 3) lv (.int (g 1) :: rest)) : Ev p l e R s m args below meth c cells slots Q D A nL (hx ad tc W g h Dv Sh u v z y) pc lv (.ref (ad 1) :: rest) :=
  E_get C hd F 1 rfl rfl k
theorem xp_9_3 (C : Cx p R s m args c own cc nL D tc tt A d) {idx : Nat} {w : Int32} (hd : decode cc pc = .ok (.putfield idx, 3)) (F : FLw own idx 9 3 .int) (k : Ev p l e R s m args below meth c cells slots Q D A nL (hx ad tc W (va_up g 1 w) h Dv Sh u v z y) (pc + 3) lv rest) : Ev p l e R s m args below meth c cells slots Q D A nL (hx ad tc W g h Dv Sh u v z y) pc lv (.int w :: .ref (ad 1) :: rest) :=
  E_put C hd F 1 rfl rfl rfl (Nat.le_of_ble_eq_true rfl) rfl k
theorem xa_3 (C : Cx p R s m args c own cc nL D tc tt A d) {i : Int32} (hd : decode cc pc = .ok (.iaload, 1)) (hin : vp_in i 8) (k : Ev p l e R s m args below meth c cells slots Q D A nL (hx ad tc W g h Dv Sh u v z y) (pc + 1) lv (.int (W 0 i.toNatClampNeg) :: rest)) : Ev p l e R s m args below meth c cells slots Q D A nL (hx ad tc W g h Dv Sh u v z y) pc lv (.int i :: .ref (ad 3) :: rest) :=
  E_iald C hd 3 rfl hin k
theorem xs_3 (C : Cx p R s m args c own cc nL D tc tt A d) {i : Int32} {w : Int32} (hd : decode cc pc = .ok (.iastore, 1)) (hin : vp_in i 8) (k : Ev p l e R s m args below meth c cells slots Q D A nL (hx ad tc (va_up W 0 (upd (W 0) i.toNatClampNeg w)) g h Dv Sh u v z y) (pc + 1) lv rest) : Ev p l e R s m args below meth c cells slots Q D A nL (hx ad tc W g h Dv Sh u v z y) pc lv (.int w :: .int i :: .ref (ad 3) :: rest) :=
  E_iast C hd 3 rfl hin rfl k
theorem xn_3 (C : Cx p R s m args c own cc nL D tc tt A d) (hd : decode cc pc = .ok (.arraylength, 1)) (k : Ev p l e R s m args below meth c cells slots Q D A nL (hx ad tc W g h Dv Sh u v z y) (pc + 1) lv (.int 8 :: rest)) : Ev p l e R s m args below meth c cells slots Q D A nL (hx ad tc W g h Dv Sh u v z y) pc lv (.ref (ad 3) :: rest) :=
  E_alen C hd 3 0 rfl rfl rfl k
theorem xa_4 (C : Cx p R s m args c own cc nL D tc tt A d) {i : Int32} (hd : decode cc pc = .ok (.iaload, 1)) (hin : vp_in i 8) (k : Ev p l e R s m args below meth c cells slots Q D A nL (hx ad tc W g h Dv Sh u v z y) (pc + 1) lv (.int (W 1 i.toNatClampNeg) :: rest)) : Ev p l e R s m args below meth c cells slots Q D A nL (hx ad tc W g h Dv Sh u v z y) pc lv (.int i :: .ref (ad 4) :: rest) :=
  E_iald C hd 4 rfl hin k
theorem xs_4 (C : Cx p R s m args c own cc nL D tc tt A d) {i : Int32} {w : Int32} (hd : decode cc pc = .ok (.iastore, 1)) (hin : vp_in i 8) (k : Ev p l e R s m args below meth c cells slots Q D A nL (hx ad tc (va_up W 1 (upd (W 1) i.toNatClampNeg w)) g h Dv Sh u v z y) (pc + 1) lv rest) : Ev p l e R s m args below meth c cells slots Q D A nL (hx ad tc W g h Dv Sh u v z y) pc lv (.int w :: .int i :: .ref (ad 4) :: rest) :=
  E_iast C hd 4 rfl hin rfl k
theorem xn_4 (C : Cx p R s m args c own cc nL D tc tt A d) (hd : decode cc pc = .ok (.arraylength, 1)) (k : Ev p l e R s m args below meth c cells slots Q D A nL (hx ad tc W g h Dv Sh u v z y) (pc + 1) lv (.int 8 :: rest)) : Ev p l e R s m args below meth c cells slots Q D A nL (hx ad tc W g h Dv Sh u v z y) pc lv (.ref (ad 4) :: rest) :=
  E_alen C hd 4 0 rfl rfl rfl k
theorem xa_5 (C : Cx p R s m args c own cc nL D tc tt A d) {i : Int32} (hd : decode cc pc = .ok (.iaload, 1)) (hin : vp_in i 8) (k : Ev p l e R s m args below meth c cells slots Q D A nL (hx ad tc W g h Dv Sh u v z y) (pc + 1) lv (.int (W 2 i.toNatClampNeg) :: rest)) : Ev p l e R s m args below meth c cells slots Q D A nL (hx ad tc W g h Dv Sh u v z y) pc lv (.int i :: .ref (ad 5) :: rest) :=
  E_iald C hd 5 rfl hin k
theorem xs_5 (C : Cx p R s m args c own cc nL D tc tt A d) {i : Int32} {w : Int32} (hd : decode cc pc = .ok (.iastore, 1)) (hin : vp_in i 8) (k : Ev p l e R s m args below meth c cells slots Q D A nL (hx ad tc (va_up W 2 (upd (W 2) i.toNatClampNeg w)) g h Dv Sh u v z y) (pc + 1) lv rest) : Ev p l e R s m args below meth c cells slots Q D A nL (hx ad tc W g h Dv Sh u v z y) pc lv (.int w :: .int i :: .ref (ad 5) :: rest) :=
  E_iast C hd 5 rfl hin rfl k
theorem xn_5 (C : Cx p R s m args c own cc nL D tc tt A d) (hd : decode cc pc = .ok (.arraylength, 1)) (k : Ev p l e R s m args below meth c cells slots Q D A nL (hx ad tc W g h Dv Sh u v z y) (pc + 1) lv (.int 8 :: rest)) : Ev p l e R s m args below meth c cells slots Q D A nL (hx ad tc W g h Dv Sh u v z y) pc lv (.ref (ad 5) :: rest) :=
  E_alen C hd 5 0 rfl rfl rfl k
theorem xa_6 (C : Cx p R s m args c own cc nL D tc tt A d) {i : Int32} (hd : decode cc pc = .ok (.iaload, 1)) (hin : vp_in i 8) (k : Ev p l e R s m args below meth c cells slots Q D A nL (hx ad tc W g h Dv Sh u v z y) (pc + 1) lv (.int (W 3 i.toNatClampNeg) :: rest)) : Ev p l e R s m args below meth c cells slots Q D A nL (hx ad tc W g h Dv Sh u v z y) pc lv (.int i :: .ref (ad 6) :: rest) :=
  E_iald C hd 6 rfl hin k
theorem xs_6 (C : Cx p R s m args c own cc nL D tc tt A d) {i : Int32} {w : Int32} (hd : decode cc pc = .ok (.iastore, 1)) (hin : vp_in i 8) (k : Ev p l e R s m args below meth c cells slots Q D A nL (hx ad tc (va_up W 3 (upd (W 3) i.toNatClampNeg w)) g h Dv Sh u v z y) (pc + 1) lv rest) : Ev p l e R s m args below meth c cells slots Q D A nL (hx ad tc W g h Dv Sh u v z y) pc lv (.int w :: .int i :: .ref (ad 6) :: rest) :=
  E_iast C hd 6 rfl hin rfl k
theorem xn_6 (C : Cx p R s m args c own cc nL D tc tt A d) (hd : decode cc pc = .ok (.arraylength, 1)) (k : Ev p l e R s m args below meth c cells slots Q D A nL (hx ad tc W g h Dv Sh u v z y) (pc + 1) lv (.int 8 :: rest)) : Ev p l e R s m args below meth c cells slots Q D A nL (hx ad tc W g h Dv Sh u v z y) pc lv (.ref (ad 6) :: rest) :=
  E_alen C hd 6 0 rfl rfl rfl k
theorem xa_7 (C : Cx p R s m args c own cc nL D tc tt A d) {i : Int32} (hd : decode cc pc = .ok (.iaload, 1)) (hin : vp_in i 8) (k : Ev p l e R s m args below meth c cells slots Q D A nL (hx ad tc W g h Dv Sh u v z y) (pc + 1) lv (.int (W 4 i.toNatClampNeg) :: rest)) : Ev p l e R s m args below meth c cells slots Q D A nL (hx ad tc W g h Dv Sh u v z y) pc lv (.int i :: .ref (ad 7) :: rest) :=
  E_iald C hd 7 rfl hin k
theorem xs_7 (C : Cx p R s m args c own cc nL D tc tt A d) {i : Int32} {w : Int32} (hd : decode cc pc = .ok (.iastore, 1)) (hin : vp_in i 8) (k : Ev p l e R s m args below meth c cells slots Q D A nL (hx ad tc (va_up W 4 (upd (W 4) i.toNatClampNeg w)) g h Dv Sh u v z y) (pc + 1) lv rest) : Ev p l e R s m args below meth c cells slots Q D A nL (hx ad tc W g h Dv Sh u v z y) pc lv (.int w :: .int i :: .ref (ad 7) :: rest) :=
  E_iast C hd 7 rfl hin rfl k
theorem xn_7 (C : Cx p R s m args c own cc nL D tc tt A d) (hd : decode cc pc = .ok (.arraylength, 1)) (k : Ev p l e R s m args below meth c cells slots Q D A nL (hx ad tc W g h Dv Sh u v z y) (pc + 1) lv (.int 8 :: rest)) : Ev p l e R s m args below meth c cells slots Q D A nL (hx ad tc W g h Dv Sh u v z y) pc lv (.ref (ad 7) :: rest) :=
  E_alen C hd 7 0 rfl rfl rfl k
theorem xa_8 (C : Cx p R s m args c own cc nL D tc tt A d) {i : Int32} (hd : decode cc pc = .ok (.iaload, 1)) (hin : vp_in i 8) (k : Ev p l e R s m args below meth c cells slots Q D A nL (hx ad tc W g h Dv Sh u v z y) (pc + 1) lv (.int (W 5 i.toNatClampNeg) :: rest)) : Ev p l e R s m args below meth c cells slots Q D A nL (hx ad tc W g h Dv Sh u v z y) pc lv (.int i :: .ref (ad 8) :: rest) :=
  E_iald C hd 8 rfl hin k
theorem xs_8 (C : Cx p R s m args c own cc nL D tc tt A d) {i : Int32} {w : Int32} (hd : decode cc pc = .ok (.iastore, 1)) (hin : vp_in i 8) (k : Ev p l e R s m args below meth c cells slots Q D A nL (hx ad tc (va_up W 5 (upd (W 5) i.toNatClampNeg w)) g h Dv Sh u v z y) (pc + 1) lv rest) : Ev p l e R s m args below meth c cells slots Q D A nL (hx ad tc W g h Dv Sh u v z y) pc lv (.int w :: .int i :: .ref (ad 8) :: rest) :=
  E_iast C hd 8 rfl hin rfl k
theorem xn_8 (C : Cx p R s m args c own cc nL D tc tt A d) (hd : decode cc pc = .ok (.arraylength, 1)) (k : Ev p l e R s m args below meth c cells slots Q D A nL (hx ad tc W g h Dv Sh u v z y) (pc + 1) lv (.int 8 :: rest)) : Ev p l e R s m args below meth c cells slots Q D A nL (hx ad tc W g h Dv Sh u v z y) pc lv (.ref (ad 8) :: rest) :=
  E_alen C hd 8 0 rfl rfl rfl k
theorem xa_9 (C : Cx p R s m args c own cc nL D tc tt A d) {i : Int32} (hd : decode cc pc = .ok (.iaload, 1)) (hin : vp_in i 8) (k : Ev p l e R s m args below meth c cells slots Q D A nL (hx ad tc W g h Dv Sh u v z y) (pc + 1) lv (.int (W 6 i.toNatClampNeg) :: rest)) : Ev p l e R s m args below meth c cells slots Q D A nL (hx ad tc W g h Dv Sh u v z y) pc lv (.int i :: .ref (ad 9) :: rest) :=
  E_iald C hd 9 rfl hin k
theorem xs_9 (C : Cx p R s m args c own cc nL D tc tt A d) {i : Int32} {w : Int32} (hd : decode cc pc = .ok (.iastore, 1)) (hin : vp_in i 8) (k : Ev p l e R s m args below meth c cells slots Q D A nL (hx ad tc (va_up W 6 (upd (W 6) i.toNatClampNeg w)) g h Dv Sh u v z y) (pc + 1) lv rest) : Ev p l e R s m args below meth c cells slots Q D A nL (hx ad tc W g h Dv Sh u v z y) pc lv (.int w :: .int i :: .ref (ad 9) :: rest) :=
  E_iast C hd 9 rfl hin rfl k
theorem xn_9 (C : Cx p R s m args c own cc nL D tc tt A d) (hd : decode cc pc = .ok (.arraylength, 1)) (k : Ev p l e R s m args below meth c cells slots Q D A nL (hx ad tc W g h Dv Sh u v z y) (pc + 1) lv (.int 8 :: rest)) : Ev p l e R s m args below meth c cells slots Q D A nL (hx ad tc W g h Dv Sh u v z y) pc lv (.ref (ad 9) :: rest) :=
  E_alen C hd 9 0 rfl rfl rfl k
theorem xa_10 (C : Cx p R s m args c own cc nL D tc tt A d) {i : Int32} (hd : decode cc pc = .ok (.iaload, 1)) (hin : vp_in i 8) (k : Ev p l e R s m args below meth c cells slots Q D A nL (hx ad tc W g h Dv Sh u v z y) (pc + 1) lv (.int (W 7 i.toNatClampNeg) :: rest)) : Ev p l e R s m args below meth c cells slots Q D A nL (hx ad tc W g h Dv Sh u v z y) pc lv (.int i :: .ref (ad 10) :: rest) :=
  E_iald C hd 10 rfl hin k
theorem xs_10 (C : Cx p R s m args c own cc nL D tc tt A d) {i : Int32} {w : Int32} (hd : decode cc pc = .ok (.iastore, 1)) (hin : vp_in i 8) (k : Ev p l e R s m args below meth c cells slots Q D A nL (hx ad tc (va_up W 7 (upd (W 7) i.toNatClampNeg w)) g h Dv Sh u v z y) (pc + 1) lv rest) : Ev p l e R s m args below meth c cells slots Q D A nL (hx ad tc W g h Dv Sh u v z y) pc lv (.int w :: .int i :: .ref (ad 10) :: rest) :=
  E_iast C hd 10 rfl hin rfl k
theorem xn_10 (C : Cx p R s m args c own cc nL D tc tt A d) (hd : decode cc pc = .ok (.arraylength, 1)) (k : Ev p l e R s m args below meth c cells slots Q D A nL (hx ad tc W g h Dv Sh u v z y) (pc + 1) lv (.int 8 :: rest)) : Ev p l e R s m args below meth c cells slots Q D A nL (hx ad tc W g h Dv Sh u v z y) pc lv (.ref (ad 10) :: rest) :=
  E_alen C hd 10 0 rfl rfl rfl k
theorem xg_5_0 (C : Cx p R s m args c own cc nL D tc tt A d) {idx : Nat} {ty : FieldType} (hd : decode cc pc = .ok (.getfield idx, 3)) (F : FL own idx 5 0 ty) (k : Ev p l e R s m args below meth c cells slots Q D A nL (hx ad tc W g h Dv Sh u v z y) (pc + 3) lv (.ref (ad 12) :: rest)) : Ev p l e R s m args below meth c cells slots Q D A nL (hx ad tc W g h Dv Sh u v z y) pc lv (.ref (ad 11) :: rest) :=
  E_get C hd F 11 rfl rfl k
theorem xg_5_1 (C : Cx p R s m args c own cc nL D tc tt A d) {idx : Nat} {ty : FieldType} (hd : decode cc pc = .ok (.getfield idx, 3)) (F : FL own idx 5 1 ty) (k : Ev p l e R s m args below meth c cells slots Q D A nL (hx ad tc W g h Dv Sh u v z y) (pc + 3) lv (.ref (ad 13) :: rest)) : Ev p l e R s m args below meth c cells slots Q D A nL (hx ad tc W g h Dv Sh u v z y) pc lv (.ref (ad 11) :: rest) :=
  E_get C hd F 11 rfl rfl k
theorem xg_5_2 (C : Cx p R s m args c own cc nL D tc tt A d) {idx : Nat} {ty : FieldType} (hd : decode cc pc = .ok (.getfield idx, 3)) (F : FL own idx 5 2 ty) (k : Ev p l e R s m args below meth c cells slots Q D A nL (hx ad tc W g h Dv Sh u v z y) (pc + 3) lv (.ref (ad 14) :: rest)) : Ev p l e R s m args below meth c cells slots Q D A nL (hx ad tc W g h Dv Sh u v z y) pc lv (.ref (ad 11) :: rest) :=
  E_get C hd F 11 rfl rfl k
theorem xg_5_3 (C : Cx p R s m args c own cc nL D tc tt A d) {idx : Nat} {ty : FieldType} (hd : decode cc pc = .ok (.getfield idx, 3)) (F : FL own idx 5 3 ty) (k : Ev p l e R s m args below meth c cells slots Q D A nL (hx ad tc W g h Dv Sh u v z y) (pc + 3) lv (.ref (ad 15) :: rest)) : Ev p l e R s m args below meth c cells slots Q D A nL (hx ad tc W g h Dv Sh u v z y) pc lv (.ref (ad 11) :: rest) :=
  E_get C hd F 11 rfl rfl k
theorem xg_5_4 (C : Cx p R s m args c own cc nL D tc tt A d) {idx : Nat} {ty : FieldType} (hd : decode cc pc = .ok (.getfield idx, 3)) (F : FL own idx 5 4 ty) (k : Ev p l e R s m args below meth c cells slots Q D A nL (hx ad tc W g h Dv Sh u v z y) (pc + 3) lv (.int (g 2) :: rest)) : Ev p l e R s m args below meth c cells slots Q D A nL (hx ad tc W g h Dv Sh u v z y) pc lv (.ref (ad 11) :: rest) :=
  E_get C hd F 11 rfl rfl k
theorem xp_5_4 (C : Cx p R s m args c own cc nL D tc tt A d) {idx : Nat} {w : Int32} (hd : decode cc pc = .ok (.putfield idx, 3)) (F : FLw own idx 5 4 .int) (k : Ev p l e R s m args below meth c cells slots Q D A nL (hx ad tc W (va_up g 2 w) h Dv Sh u v z y) (pc + 3) lv rest) : Ev p l e R s m args below meth c cells slots Q D A nL (hx ad tc W g h Dv Sh u v z y) pc lv (.int w :: .ref (ad 11) :: rest) :=
  E_put C hd F 11 rfl rfl rfl (Nat.le_of_ble_eq_true rfl) rfl k
theorem xa_12 (C : Cx p R s m args c own cc nL D tc tt A d) {i : Int32} (hd : decode cc pc = .ok (.iaload, 1)) (hin : vp_in i 128) (k : Ev p l e R s m args below meth c cells slots Q D A nL (hx ad tc W g h Dv Sh u v z y) (pc + 1) lv (.int (h 0 i.toNatClampNeg) :: rest)) : Ev p l e R s m args below meth c cells slots Q D A nL (hx ad tc W g h Dv Sh u v z y) pc lv (.int i :: .ref (ad 12) :: rest) :=
  E_iald C hd 12 rfl hin k
theorem xs_12 (C : Cx p R s m args c own cc nL D tc tt A d) {i : Int32} {w : Int32} (hd : decode cc pc = .ok (.iastore, 1)) (hin : vp_in i 128) (k : Ev p l e R s m args below meth c cells slots Q D A nL (hx ad tc W g (va_up h 0 (upd (h 0) i.toNatClampNeg w)) Dv Sh u v z y) (pc + 1) lv rest) : Ev p l e R s m args below meth c cells slots Q D A nL (hx ad tc W g h Dv Sh u v z y) pc lv (.int w :: .int i :: .ref (ad 12) :: rest) :=
  E_iast C hd 12 rfl hin rfl k
theorem xn_12 (C : Cx p R s m args c own cc nL D tc tt A d) (hd : decode cc pc = .ok (.arraylength, 1)) (k : Ev p l e R s m args below meth c cells slots Q D A nL (hx ad tc W g h Dv Sh u v z y) (pc + 1) lv (.int 128 :: rest)) : Ev p l e R s m args below meth c cells slots Q D A nL (hx ad tc W g h Dv Sh u v z y) pc lv (.ref (ad 12) :: rest) :=
  E_alen C hd 12 0 rfl rfl rfl k
theorem xa_13 (C : Cx p R s m args c own cc nL D tc tt A d) {i : Int32} (hd : decode cc pc = .ok (.iaload, 1)) (hin : vp_in i 128) (k : Ev p l e R s m args below meth c cells slots Q D A nL (hx ad tc W g h Dv Sh u v z y) (pc + 1) lv (.int (h 1 i.toNatClampNeg) :: rest)) : Ev p l e R s m args below meth c cells slots Q D A nL (hx ad tc W g h Dv Sh u v z y) pc lv (.int i :: .ref (ad 13) :: rest) :=
  E_iald C hd 13 rfl hin k
theorem xs_13 (C : Cx p R s m args c own cc nL D tc tt A d) {i : Int32} {w : Int32} (hd : decode cc pc = .ok (.iastore, 1)) (hin : vp_in i 128) (k : Ev p l e R s m args below meth c cells slots Q D A nL (hx ad tc W g (va_up h 1 (upd (h 1) i.toNatClampNeg w)) Dv Sh u v z y) (pc + 1) lv rest) : Ev p l e R s m args below meth c cells slots Q D A nL (hx ad tc W g h Dv Sh u v z y) pc lv (.int w :: .int i :: .ref (ad 13) :: rest) :=
  E_iast C hd 13 rfl hin rfl k
theorem xn_13 (C : Cx p R s m args c own cc nL D tc tt A d) (hd : decode cc pc = .ok (.arraylength, 1)) (k : Ev p l e R s m args below meth c cells slots Q D A nL (hx ad tc W g h Dv Sh u v z y) (pc + 1) lv (.int 128 :: rest)) : Ev p l e R s m args below meth c cells slots Q D A nL (hx ad tc W g h Dv Sh u v z y) pc lv (.ref (ad 13) :: rest) :=
  E_alen C hd 13 0 rfl rfl rfl k
theorem xa_14 (C : Cx p R s m args c own cc nL D tc tt A d) {i : Int32} (hd : decode cc pc = .ok (.iaload, 1)) (hin : vp_in i 130) (k : Ev p l e R s m args below meth c cells slots Q D A nL (hx ad tc W g h Dv Sh u v z y) (pc + 1) lv (.int (v 0 i.toNatClampNeg) :: rest)) : Ev p l e R s m args below meth c cells slots Q D A nL (hx ad tc W g h Dv Sh u v z y) pc lv (.int i :: .ref (ad 14) :: rest) :=
  E_iald C hd 14 rfl hin k
theorem xs_14 (C : Cx p R s m args c own cc nL D tc tt A d) {i : Int32} {w : Int32} (hd : decode cc pc = .ok (.iastore, 1)) (hin : vp_in i 130) (k : Ev p l e R s m args below meth c cells slots Q D A nL (hx ad tc W g h Dv Sh u (va_up v 0 (upd (v 0) i.toNatClampNeg w)) z y) (pc + 1) lv rest) : Ev p l e R s m args below meth c cells slots Q D A nL (hx ad tc W g h Dv Sh u v z y) pc lv (.int w :: .int i :: .ref (ad 14) :: rest) :=
  E_iast C hd 14 rfl hin rfl k
theorem xn_14 (C : Cx p R s m args c own cc nL D tc tt A d) (hd : decode cc pc = .ok (.arraylength, 1)) (k : Ev p l e R s m args below meth c cells slots Q D A nL (hx ad tc W g h Dv Sh u v z y) (pc + 1) lv (.int 130 :: rest)) : Ev p l e R s m args below meth c cells slots Q D A nL (hx ad tc W g h Dv Sh u v z y) pc lv (.ref (ad 14) :: rest) :=
  E_alen C hd 14 0 rfl rfl rfl k
theorem xa_15 (C : Cx p R s m args c own cc nL D tc tt A d) {i : Int32} (hd : decode cc pc = .ok (.iaload, 1)) (hin : vp_in i 5) (k : Ev p l e R s m args below meth c cells slots Q D A nL (hx ad tc W g h Dv Sh u v z y) (pc + 1) lv (.int (v 1 i.toNatClampNeg) :: rest)) : Ev p l e R s m args below meth c cells slots Q D A nL (hx ad tc W g h Dv Sh u v z y) pc lv (.int i :: .ref (ad 15) :: rest) :=
  E_iald C hd 15 rfl hin k
theorem xs_15 (C : Cx p R s m args c own cc nL D tc tt A d) {i : Int32} {w : Int32} (hd : decode cc pc = .ok (.iastore, 1)) (hin : vp_in i 5) (k : Ev p l e R s m args below meth c cells slots Q D A nL (hx ad tc W g h Dv Sh u (va_up v 1 (upd (v 1) i.toNatClampNeg w)) z y) (pc + 1) lv rest) : Ev p l e R s m args below meth c cells slots Q D A nL (hx ad tc W g h Dv Sh u v z y) pc lv (.int w :: .int i :: .ref (ad 15) :: rest) :=
  E_iast C hd 15 rfl hin rfl k
theorem xn_15 (C : Cx p R s m args c own cc nL D tc tt A d) (hd : decode cc pc = .ok (.arraylength, 1)) (k : Ev p l e R s m args below meth c cells slots Q D A nL (hx ad tc W g h Dv Sh u v z y) (pc + 1) lv (.int 5 :: rest)) : Ev p l e R s m args below meth c cells slots Q D A nL (hx ad tc W g h Dv Sh u v z y) pc lv (.ref (ad 15) :: rest) :=
  E_alen C hd 15 0 rfl rfl rfl k
theorem xg_1_0 (C : Cx p R s m args c own cc nL D tc tt A d) {idx : Nat} {ty : FieldType} (hd : decode cc pc = .ok (.getfield idx, 3)) (F : FL own idx 1 0 ty) (k : Ev p l e R s m args below meth c cells slots Q D A nL (hx ad tc W g h Dv Sh u v z y) (pc + 3) lv (.ref (ad 17) :: rest)) : Ev p l e R s m args below meth c cells slots Q D A nL (hx ad tc W g h Dv Sh u v z y) pc lv (.ref (ad 16) :: rest) :=
  E_get C hd F 16 rfl rfl k
theorem xg_1_1 (C : Cx p R s m args c own cc nL D tc tt A d) {idx : Nat} {ty : FieldType} (hd : decode cc pc = .ok (.getfield idx, 3)) (F : FL own idx 1 1 ty) (k : Ev p l e R s m args below meth c cells slots Q D A nL (hx ad tc W g h Dv Sh u v z y) (pc + 3) lv (.ref (ad 18) :: rest)) : Ev p l e R s m args below meth c cells slots Q D A nL (hx ad tc W g h Dv Sh u v z y) pc lv (.ref (ad 16) :: rest) :=
  E_get C hd F 16 rfl rfl k
theorem xg_1_2 (C : Cx p R s m args c own cc nL D tc tt A d) {idx : Nat} {ty : FieldType} (hd : decode cc pc = .ok (.getfield idx, 3)) (F : FL own idx 1 2 ty) (k : Ev p l e R s m args below meth c cells slots Q D A nL (hx ad tc W g h Dv Sh u v z y) (pc + 3) lv (.ref (ad 19) :: rest)) : Ev p l e R s m args below meth c cells slots Q D A nL (hx ad tc W g h Dv Sh u v z y) pc lv (.ref (ad 16) :: rest) :=
  E_get C hd F 16 rfl rfl k
theorem xg_1_3 (C : Cx p R s m args c own cc nL D tc tt A d) {idx : Nat} {ty : FieldType} (hd : decode cc pc = .ok (.getfield idx, 3)) (F : FL own idx 1 3 ty) (k : Ev p l e R s m args below meth c cells slots Q D A nL (hx ad tc W g h Dv Sh u v z y) (pc + 3) lv (.ref (ad 20) :: rest)) : Ev p l e R s m args below meth c cells slots Q D A nL (hx ad tc W g h Dv Sh u v z y) pc lv (.ref (ad 16) :: rest) :=
  E_get C hd F 16 rfl rfl k
theorem xg_1_4 (C : Cx p R s m args c own cc nL D tc tt A d) {idx : Nat} {ty : FieldType} (hd : decode cc pc = .ok (.getfield idx, 3)) (F : FL own idx 1 4 ty) (k : Ev p l e R s m args below meth c cells slots Q D A nL (hx ad tc W g h Dv Sh u v z y) (pc + 3) lv (.int (g 3) :: rest)) : Ev p l e R s m args below meth c cells slots Q D A nL (hx ad tc W g h Dv Sh u v z y) pc lv (.ref (ad 16) :: rest) :=
  E_get C hd F 16 rfl rfl k
theorem xp_1_4 (C : Cx p R s m args c own cc nL D tc tt A d) {idx : Nat} {w : Int32} (hd : decode cc pc = .ok (.putfield idx, 3)) (F : FLw own idx 1 4 .int) (k : Ev p l e R s m args below meth c cells slots Q D A nL (hx ad tc W (va_up g 3 w) h Dv Sh u v z y) (pc + 3) lv rest) : Ev p l e R s m args below meth c cells slots Q D A nL (hx ad tc W g h Dv Sh u v z y) pc lv (.int w :: .ref (ad 16) :: rest) :=
  E_put C hd F 16 rfl rfl rfl (Nat.le_of_ble_eq_true rfl) rfl k
theorem xg_1_5 (C : Cx p R s m args c own cc nL D tc tt A d) {idx : Nat} {ty : FieldType} (hd : decode cc pc = .ok (.getfield idx, 3)) (F : FL own idx 1 5 ty) (k : Ev p l e R s m args below meth c cells slots Q D A nL (hx ad tc W g h Dv Sh u v z y) (pc + 3) lv (.int (g 4) :: rest)) : Ev p l e R s m args below meth c cells slots Q D A nL (hx ad tc W g h Dv Sh u v z y) pc lv (.ref (ad 16) :: rest) :=
  E_get C hd F 16 rfl rfl k
theorem xp_1_5 (C : Cx p R s m args c own cc nL D tc tt A d) {idx : Nat} {w : Int32} (hd : decode cc pc = .ok (.putfield idx, 3)) (F : FLw own idx 1 5 .int) (k : Ev p l e R s m args below meth c cells slots Q D A nL (hx ad tc W (va_up g 4 w) h Dv Sh u v z y) (pc + 3) lv rest) : Ev p l e R s m args below meth c cells slots Q D A nL (hx ad tc W g h Dv Sh u v z y) pc lv (.int w :: .ref (ad 16) :: rest) :=
  E_put C hd F 16 rfl rfl rfl (Nat.le_of_ble_eq_true rfl) rfl k
theorem xa_17 (C : Cx p R s m args c own cc nL D tc tt A d) {i : Int32} (hd : decode cc pc = .ok (.iaload, 1)) (hin : vp_in i 40) (k : Ev p l e R s m args below meth c cells slots Q D A nL (hx ad tc W g h Dv Sh u v z y) (pc + 1) lv (.int (h 2 i.toNatClampNeg) :: rest)) : Ev p l e R s m args below meth c cells slots Q D A nL (hx ad tc W g h Dv Sh u v z y) pc lv (.int i :: .ref (ad 17) :: rest) :=
  E_iald C hd 17 rfl hin k
theorem xs_17 (C : Cx p R s m args c own cc nL D tc tt A d) {i : Int32} {w : Int32} (hd : decode cc pc = .ok (.iastore, 1)) (hin : vp_in i 40) (k : Ev p l e R s m args below meth c cells slots Q D A nL (hx ad tc W g (va_up h 2 (upd (h 2) i.toNatClampNeg w)) Dv Sh u v z y) (pc + 1) lv rest) : Ev p l e R s m args below meth c cells slots Q D A nL (hx ad tc W g h Dv Sh u v z y) pc lv (.int w :: .int i :: .ref (ad 17) :: rest) :=
  E_iast C hd 17 rfl hin rfl k
theorem xn_17 (C : Cx p R s m args c own cc nL D tc tt A d) (hd : decode cc pc = .ok (.arraylength, 1)) (k : Ev p l e R s m args below meth c cells slots Q D A nL (hx ad tc W g h Dv Sh u v z y) (pc + 1) lv (.int 40 :: rest)) : Ev p l e R s m args below meth c cells slots Q D A nL (hx ad tc W g h Dv Sh u v z y) pc lv (.ref (ad 17) :: rest) :=
  E_alen C hd 17 0 rfl rfl rfl k
theorem xa_18 (C : Cx p R s m args c own cc nL D tc tt A d) {i : Int32} (hd : decode cc pc = .ok (.iaload, 1)) (hin : vp_in i 40) (k : Ev p l e R s m args below meth c cells slots Q D A nL (hx ad tc W g h Dv Sh u v z y) (pc + 1) lv (.int (h 3 i.toNatClampNeg) :: rest)) : Ev p l e R s m args below meth c cells slots Q D A nL (hx ad tc W g h Dv Sh u v z y) pc lv (.int i :: .ref (ad 18) :: rest) :=
  E_iald C hd 18 rfl hin k
theorem xs_18 (C : Cx p R s m args c own cc nL D tc tt A d) {i : Int32} {w : Int32} (hd : decode cc pc = .ok (.iastore, 1)) (hin : vp_in i 40) (k : Ev p l e R s m args below meth c cells slots Q D A nL (hx ad tc W g (va_up h 3 (upd (h 3) i.toNatClampNeg w)) Dv Sh u v z y) (pc + 1) lv rest) : Ev p l e R s m args below meth c cells slots Q D A nL (hx ad tc W g h Dv Sh u v z y) pc lv (.int w :: .int i :: .ref (ad 18) :: rest) :=
  E_iast C hd 18 rfl hin rfl k
theorem xn_18 (C : Cx p R s m args c own cc nL D tc tt A d) (hd : decode cc pc = .ok (.arraylength, 1)) (k : Ev p l e R s m args below meth c cells slots Q D A nL (hx ad tc W g h Dv Sh u v z y) (pc + 1) lv (.int 40 :: rest)) : Ev p l e R s m args below meth c cells slots Q D A nL (hx ad tc W g h Dv Sh u v z y) pc lv (.ref (ad 18) :: rest) :=
  E_alen C hd 18 0 rfl rfl rfl k
theorem xa_19 (C : Cx p R s m args c own cc nL D tc tt A d) {i : Int32} (hd : decode cc pc = .ok (.iaload, 1)) (hin : vp_in i 40) (k : Ev p l e R s m args below meth c cells slots Q D A nL (hx ad tc W g h Dv Sh u v z y) (pc + 1) lv (.int (h 4 i.toNatClampNeg) :: rest)) : Ev p l e R s m args below meth c cells slots Q D A nL (hx ad tc W g h Dv Sh u v z y) pc lv (.int i :: .ref (ad 19) :: rest) :=
  E_iald C hd 19 rfl hin k
theorem xs_19 (C : Cx p R s m args c own cc nL D tc tt A d) {i : Int32} {w : Int32} (hd : decode cc pc = .ok (.iastore, 1)) (hin : vp_in i 40) (k : Ev p l e R s m args below meth c cells slots Q D A nL (hx ad tc W g (va_up h 4 (upd (h 4) i.toNatClampNeg w)) Dv Sh u v z y) (pc + 1) lv rest) : Ev p l e R s m args below meth c cells slots Q D A nL (hx ad tc W g h Dv Sh u v z y) pc lv (.int w :: .int i :: .ref (ad 19) :: rest) :=
  E_iast C hd 19 rfl hin rfl k
theorem xn_19 (C : Cx p R s m args c own cc nL D tc tt A d) (hd : decode cc pc = .ok (.arraylength, 1)) (k : Ev p l e R s m args below meth c cells slots Q D A nL (hx ad tc W g h Dv Sh u v z y) (pc + 1) lv (.int 40 :: rest)) : Ev p l e R s m args below meth c cells slots Q D A nL (hx ad tc W g h Dv Sh u v z y) pc lv (.ref (ad 19) :: rest) :=
  E_alen C hd 19 0 rfl rfl rfl k
theorem xa_20 (C : Cx p R s m args c own cc nL D tc tt A d) {i : Int32} (hd : decode cc pc = .ok (.iaload, 1)) (hin : vp_in i 40) (k : Ev p l e R s m args below meth c cells slots Q D A nL (hx ad tc W g h Dv Sh u v z y) (pc + 1) lv (.int (h 5 i.toNatClampNeg) :: rest)) : Ev p l e R s m args below meth c cells slots Q D A nL (hx ad tc W g h Dv Sh u v z y) pc lv (.int i :: .ref (ad 20) :: rest) :=
  E_iald C hd 20 rfl hin k
theorem xs_20 (C : Cx p R s m args c own cc nL D tc tt A d) {i : Int32} {w : Int32} (hd : decode cc pc = .ok (.iastore, 1)) (hin : vp_in i 40) (k : Ev p l e R s m args below meth c cells slots Q D A nL (hx ad tc W g (va_up h 5 (upd (h 5) i.toNatClampNeg w)) Dv Sh u v z y) (pc + 1) lv rest) : Ev p l e R s m args below meth c cells slots Q D A nL (hx ad tc W g h Dv Sh u v z y) pc lv (.int w :: .int i :: .ref (ad 20) :: rest) :=
  E_iast C hd 20 rfl hin rfl k
theorem xn_20 (C : Cx p R s m args c own cc nL D tc tt A d) (hd : decode cc pc = .ok (.arraylength, 1)) (k : Ev p l e R s m args below meth c cells slots Q D A nL (hx ad tc W g h Dv Sh u v z y) (pc + 1) lv (.int 40 :: rest)) : Ev p l e R s m args below meth c cells slots Q D A nL (hx ad tc W g h Dv Sh u v z y) pc lv (.ref (ad 20) :: rest) :=
  E_alen C hd 20 0 rfl rfl rfl k
theorem xg_6_0 (C : Cx p R s m args c own cc nL D tc tt A d) {idx : Nat} {ty : FieldType} (hd : decode cc pc = .ok (.getfield idx, 3)) (F : FL own idx 6 0 ty) (k : Ev p l e R s m args below meth c cells slots Q D A nL (hx ad tc W g h Dv Sh u v z y) (pc + 3) lv (.ref (ad 22) :: rest)) : Ev p l e R s m args below meth c cells slots Q D A nL (hx ad tc W g h Dv Sh u v z y) pc lv (.ref (ad 21) :: rest) :=
  E_get C hd F 21 rfl rfl k
theorem xg_6_1 (C : Cx p R s m args c own cc nL D tc tt A d) {idx : Nat} {ty : FieldType} (hd : decode cc pc = .ok (.getfield idx, 3)) (F : FL own idx 6 1 ty) (k : Ev p l e R s m args below meth c cells slots Q D A nL (hx ad tc W g h Dv Sh u v z y) (pc + 3) lv (.ref (ad 23) :: rest)) : Ev p l e R s m args below meth c cells slots Q D A nL (hx ad tc W g h Dv Sh u v z y) pc lv (.ref (ad 21) :: rest) :=
  E_get C hd F 21 rfl rfl k
theorem xg_6_2 (C : Cx p R s m args c own cc nL D tc tt A d) {idx : Nat} {ty : FieldType} (hd : decode cc pc = .ok (.getfield idx, 3)) (F : FL own idx 6 2 ty) (k : Ev p l e R s m args below meth c cells slots Q D A nL (hx ad tc W g h Dv Sh u v z y) (pc + 3) lv (.ref (ad 24) :: rest)) : Ev p l e R s m args below meth c cells slots Q D A nL (hx ad tc W g h Dv Sh u v z y) pc lv (.ref (ad 21) :: rest) :=
  E_get C hd F 21 rfl rfl k
theorem xg_6_3 (C : Cx p R s m args c own cc nL D tc tt A d) {idx : Nat} {ty : FieldType} (hd : decode cc pc = .ok (.getfield idx, 3)) (F : FL own idx 6 3 ty) (k : Ev p l e R s m args below meth c cells slots Q D A nL (hx ad tc W g h Dv Sh u v z y) (pc + 3) lv (.int (g 5) :: rest)) : Ev p l e R s m args below meth c cells slots Q D A nL (hx ad tc W g h Dv Sh u v z y) pc lv (.ref (ad 21) :: rest) :=
  E_get C hd F 21 rfl rfl k
theorem xp_6_3 (C : Cx p R s m args c own cc nL D tc tt A d) {idx : Nat} {w : Int32} (hd : decode cc pc = .ok (.putfield idx, 3)) (F : FLw own idx 6 3 .int) (k : Ev p l e R s m args below meth c cells slots Q D A nL (hx ad tc W (va_up g 5 w) h Dv Sh u v z y) (pc + 3) lv rest) : Ev p l e R s m args below meth c cells slots Q D A nL (hx ad tc W g h Dv Sh u v z y) pc lv (.int w :: .ref (ad 21) :: rest) :=
  E_put C hd F 21 rfl rfl rfl (Nat.le_of_ble_eq_true rfl) rfl k
theorem xg_6_4 (C : Cx p R s m args c own cc nL D tc tt A d) {idx : Nat} {ty : FieldType} (hd : decode cc pc = .ok (.getfield idx, 3)) (F : FL own idx 6 4 ty) (k : Ev p l e R s m args below meth c cells slots Q D A nL (hx ad tc W g h Dv Sh u v z y) (pc + 3) lv (.int (u 0) :: rest)) : Ev p l e R s m args below meth c cells slots Q D A nL (hx ad tc W g h Dv Sh u v z y) pc lv (.ref (ad 21) :: rest) :=
  E_get C hd F 21 rfl rfl k
theorem xp_6_4 (C : Cx p R s m args c own cc nL D tc tt A d) {idx : Nat} {w : Int32} (hd : decode cc pc = .ok (.putfield idx, 3)) (F : FLw own idx 6 4 .int) (k : Ev p l e R s m args below meth c cells slots Q D A nL (hx ad tc W g h Dv Sh (va_up u 0 w) v z y) (pc + 3) lv rest) : Ev p l e R s m args below meth c cells slots Q D A nL (hx ad tc W g h Dv Sh u v z y) pc lv (.int w :: .ref (ad 21) :: rest) :=
  E_put C hd F 21 rfl rfl rfl (Nat.le_of_ble_eq_true rfl) rfl k
theorem xg_6_5 (C : Cx p R s m args c own cc nL D tc tt A d) {idx : Nat} {ty : FieldType} (hd : decode cc pc = .ok (.getfield idx, 3)) (F : FL own idx 6 5 ty) (k : Ev p l e R s m args below meth c cells slots Q D A nL (hx ad tc W g h Dv Sh u v z y) (pc + 3) lv (.int (u 1) :: rest)) : Ev p l e R s m args below meth c cells slots Q D A nL (hx ad tc W g h Dv Sh u v z y) pc lv (.ref (ad 21) :: rest) :=
  E_get C hd F 21 rfl rfl k
theorem xp_6_5 (C : Cx p R s m args c own cc nL D tc tt A d) {idx : Nat} {w : Int32} (hd : decode cc pc = .ok (.putfield idx, 3)) (F : FLw own idx 6 5 .int) (k : Ev p l e R s m args below meth c cells slots Q D A nL (hx ad tc W g h Dv Sh (va_up u 1 w) v z y) (pc + 3) lv rest) : Ev p l e R s m args below meth c cells slots Q D A nL (hx ad tc W g h Dv Sh u v z y) pc lv (.int w :: .ref (ad 21) :: rest) :=
  E_put C hd F 21 rfl rfl rfl (Nat.le_of_ble_eq_true rfl) rfl k
theorem xg_6_6 (C : Cx p R s m args c own cc nL D tc tt A d) {idx : Nat} {ty : FieldType} (hd : decode cc pc = .ok (.getfield idx, 3)) (F : FL own idx 6 6 ty) (k : Ev p l e R s m args below meth c cells slots Q D A nL (hx ad tc W g h Dv Sh u v z y) (pc + 3) lv (.int (u 2) :: rest)) : Ev p l e R s m args below meth c cells slots Q D A nL (hx ad tc W g h Dv Sh u v z y) pc lv (.ref (ad 21) :: rest) :=
  E_get C hd F 21 rfl rfl k
theorem xp_6_6 (C : Cx p R s m args c own cc nL D tc tt A d) {idx : Nat} {w : Int32} (hd : decode cc pc = .ok (.putfield idx, 3)) (F : FLw own idx 6 6 .int) (k : Ev p l e R s m args below meth c cells slots Q D A nL (hx ad tc W g h Dv Sh (va_up u 2 w) v z y) (pc + 3) lv rest) : Ev p l e R s m args below meth c cells slots Q D A nL (hx ad tc W g h Dv Sh u v z y) pc lv (.int w :: .ref (ad 21) :: rest) :=
  E_put C hd F 21 rfl rfl rfl (Nat.le_of_ble_eq_true rfl) rfl k
theorem xa_22 (C : Cx p R s m args c own cc nL D tc tt A d) {i : Int32} (hd : decode cc pc = .ok (.iaload, 1)) (hin : vp_in i 120) (k : Ev p l e R s m args below meth c cells slots Q D A nL (hx ad tc W g h Dv Sh u v z y) (pc + 1) lv (.int (h 6 i.toNatClampNeg) :: rest)) : Ev p l e R s m args below meth c cells slots Q D A nL (hx ad tc W g h Dv Sh u v z y) pc lv (.int i :: .ref (ad 22) :: rest) :=
  E_iald C hd 22 rfl hin k
theorem xs_22 (C : Cx p R s m args c own cc nL D tc tt A d) {i : Int32} {w : Int32} (hd : decode cc pc = .ok (.iastore, 1)) (hin : vp_in i 120) (k : Ev p l e R s m args below meth c cells slots Q D A nL (hx ad tc W g (va_up h 6 (upd (h 6) i.toNatClampNeg w)) Dv Sh u v z y) (pc + 1) lv rest) : Ev p l e R s m args below meth c cells slots Q D A nL (hx ad tc W g h Dv Sh u v z y) pc lv (.int w :: .int i :: .ref (ad 22) :: rest) :=
  E_iast C hd 22 rfl hin rfl k
theorem xn_22 (C : Cx p R s m args c own cc nL D tc tt A d) (hd : decode cc pc = .ok (.arraylength, 1)) (k : Ev p l e R s m args below meth c cells slots Q D A nL (hx ad tc W g h Dv Sh u v z y) (pc + 1) lv (.int 120 :: rest)) : Ev p l e R s m args below meth c cells slots Q D A nL (hx ad tc W g h Dv Sh u v z y) pc lv (.ref (ad 22) :: rest) :=
  E_alen C hd 22 0 rfl rfl rfl k
theorem xa_23 (C : Cx p R s m args c own cc nL D tc tt A d) {i : Int32} (hd : decode cc pc = .ok (.iaload, 1)) (hin : vp_in i 128) (k : Ev p l e R s m args below meth c cells slots Q D A nL (hx ad tc W g h Dv Sh u v z y) (pc + 1) lv (.int (v 2 i.toNatClampNeg) :: rest)) : Ev p l e R s m args below meth c cells slots Q D A nL (hx ad tc W g h Dv Sh u v z y) pc lv (.int i :: .ref (ad 23) :: rest) :=
  E_iald C hd 23 rfl hin k
theorem xs_23 (C : Cx p R s m args c own cc nL D tc tt A d) {i : Int32} {w : Int32} (hd : decode cc pc = .ok (.iastore, 1)) (hin : vp_in i 128) (k : Ev p l e R s m args below meth c cells slots Q D A nL (hx ad tc W g h Dv Sh u (va_up v 2 (upd (v 2) i.toNatClampNeg w)) z y) (pc + 1) lv rest) : Ev p l e R s m args below meth c cells slots Q D A nL (hx ad tc W g h Dv Sh u v z y) pc lv (.int w :: .int i :: .ref (ad 23) :: rest) :=
  E_iast C hd 23 rfl hin rfl k
theorem xn_23 (C : Cx p R s m args c own cc nL D tc tt A d) (hd : decode cc pc = .ok (.arraylength, 1)) (k : Ev p l e R s m args below meth c cells slots Q D A nL (hx ad tc W g h Dv Sh u v z y) (pc + 1) lv (.int 128 :: rest)) : Ev p l e R s m args below meth c cells slots Q D A nL (hx ad tc W g h Dv Sh u v z y) pc lv (.ref (ad 23) :: rest) :=
  E_alen C hd 23 0 rfl rfl rfl k
theorem xa_24 (C : Cx p R s m args c own cc nL D tc tt A d) {i : Int32} (hd : decode cc pc = .ok (.iaload, 1)) (hin : vp_in i 128) (k : Ev p l e R s m args below meth c cells slots Q D A nL (hx ad tc W g h Dv Sh u v z y) (pc + 1) lv (.int (v 3 i.toNatClampNeg) :: rest)) : Ev p l e R s m args below meth c cells slots Q D A nL (hx ad tc W g h Dv Sh u v z y) pc lv (.int i :: .ref (ad 24) :: rest) :=
  E_iald C hd 24 rfl hin k
theorem xs_24 (C : Cx p R s m args c own cc nL D tc tt A d) {i : Int32} {w : Int32} (hd : decode cc pc = .ok (.iastore, 1)) (hin : vp_in i 128) (k : Ev p l e R s m args below meth c cells slots Q D A nL (hx ad tc W g h Dv Sh u (va_up v 3 (upd (v 3) i.toNatClampNeg w)) z y) (pc + 1) lv rest) : Ev p l e R s m args below meth c cells slots Q D A nL (hx ad tc W g h Dv Sh u v z y) pc lv (.int w :: .int i :: .ref (ad 24) :: rest) :=
  E_iast C hd 24 rfl hin rfl k
theorem xn_24 (C : Cx p R s m args c own cc nL D tc tt A d) (hd : decode cc pc = .ok (.arraylength, 1)) (k : Ev p l e R s m args below meth c cells slots Q D A nL (hx ad tc W g h Dv Sh u v z y) (pc + 1) lv (.int 128 :: rest)) : Ev p l e R s m args below meth c cells slots Q D A nL (hx ad tc W g h Dv Sh u v z y) pc lv (.ref (ad 24) :: rest) :=
  E_alen C hd 24 0 rfl rfl rfl k
theorem xg_8_0 (C : Cx p R s m args c own cc nL D tc tt A d) {idx : Nat} {ty : FieldType} (hd : decode cc pc = .ok (.getfield idx, 3)) (F : FL own idx 8 0 ty) (k : Ev p l e R s m args below meth c cells slots Q D A nL (hx ad tc W g h Dv Sh u v z y) (pc + 3) lv (.ref (ad 1) :: rest)) : Ev p l e R s m args below meth c cells slots Q D A nL (hx ad tc W g h Dv Sh u v z y) pc lv (.ref (ad 25) :: rest) :=
  E_get C hd F 25 rfl rfl k
theorem xg_8_1 (C : Cx p R s m args c own cc nL D tc tt A d) {idx : Nat} {ty : FieldType} (hd : decode cc pc = .ok (.getfield idx, 3)) (F : FL own idx 8 1 ty) (k : Ev p l e R s m args below meth c cells slots Q D A nL (hx ad tc W g h Dv Sh u v z y) (pc + 3) lv (.ref (ad 40) :: rest)) : Ev p l e R s m args below meth c cells slots Q D A nL (hx ad tc W g h Dv Sh u v z y) pc lv (.ref (ad 25) :: rest) :=
  E_get C hd F 25 rfl rfl k
theorem xg_8_2 (C : Cx p R s m args c own cc nL D tc tt A d) {idx : Nat} {ty : FieldType} (hd : decode cc pc = .ok (.getfield idx, 3)) (F : FL own idx 8 2 ty) (k : Ev p l e R s m args below meth c cells slots Q D A nL (hx ad tc W g h Dv Sh u v z y) (pc + 3) lv (.ref (ad 26) :: rest)) : Ev p l e R s m args below meth c cells slots Q D A nL (hx ad tc W g h Dv Sh u v z y) pc lv (.ref (ad 25) :: rest) :=
  E_get C hd F 25 rfl rfl k
theorem xg_8_3 (C : Cx p R s m args c own cc nL D tc tt A d) {idx : Nat} {ty : FieldType} (hd : decode cc pc = .ok (.getfield idx, 3)) (F : FL own idx 8 3 ty) (k : Ev p l e R s m args below meth c cells slots Q D A nL (hx ad tc W g h Dv Sh u v z y) (pc + 3) lv (.ref (ad 27) :: rest)) : Ev p l e R s m args below meth c cells slots Q D A nL (hx ad tc W g h Dv Sh u v z y) pc lv (.ref (ad 25) :: rest) :=
  E_get C hd F 25 rfl rfl k
theorem xg_8_4 (C : Cx p R s m args c own cc nL D tc tt A d) {idx : Nat} {ty : FieldType} (hd : decode cc pc = .ok (.getfield idx, 3)) (F : FL own idx 8 4 ty) (k : Ev p l e R s m args below meth c cells slots Q D A nL (hx ad tc W g h Dv Sh u v z y) (pc + 3) lv (.ref (ad 28) :: rest)) : Ev p l e R s m args below meth c cells slots Q D A nL (hx ad tc W g h Dv Sh u v z y) pc lv (.ref (ad 25) :: rest) :=
  E_get C hd F 25 rfl rfl k
theorem xg_8_5 (C : Cx p R s m args c own cc nL D tc tt A d) {idx : Nat} {ty : FieldType} (hd : decode cc pc = .ok (.getfield idx, 3)) (F : FL own idx 8 5 ty) (k : Ev p l e R s m args below meth c cells slots Q D A nL (hx ad tc W g h Dv Sh u v z y) (pc + 3) lv (.ref (ad 29) :: rest)) : Ev p l e R s m args below meth c cells slots Q D A nL (hx ad tc W g h Dv Sh u v z y) pc lv (.ref (ad 25) :: rest) :=
  E_get C hd F 25 rfl rfl k
theorem xg_8_6 (C : Cx p R s m args c own cc nL D tc tt A d) {idx : Nat} {ty : FieldType} (hd : decode cc pc = .ok (.getfield idx, 3)) (F : FL own idx 8 6 ty) (k : Ev p l e R s m args below meth c cells slots Q D A nL (hx ad tc W g h Dv Sh u v z y) (pc + 3) lv (.long (z) :: rest)) : Ev p l e R s m args below meth c cells slots Q D A nL (hx ad tc W g h Dv Sh u v z y) pc lv (.ref (ad 25) :: rest) :=
  E_get C hd F 25 rfl rfl k
theorem xp_8_6 (C : Cx p R s m args c own cc nL D tc tt A d) {idx : Nat} {w : Int64} (hd : decode cc pc = .ok (.putfield idx, 3)) (F : FLw own idx 8 6 .long) (k : Ev p l e R s m args below meth c cells slots Q D A nL (hx ad tc W g h Dv Sh u v (w) y) (pc + 3) lv rest) : Ev p l e R s m args below meth c cells slots Q D A nL (hx ad tc W g h Dv Sh u v z y) pc lv (.long w :: .ref (ad 25) :: rest) :=
  E_put C hd F 25 rfl rfl rfl (Nat.le_of_ble_eq_true rfl) rfl k
theorem xg_8_7 (C : Cx p R s m args c own cc nL D tc tt A d) {idx : Nat} {ty : FieldType} (hd : decode cc pc = .ok (.getfield idx, 3)) (F : FL own idx 8 7 ty) (k : Ev p l e R s m args below meth c cells slots Q D A nL (hx ad tc W g h Dv Sh u v z y) (pc + 3) lv (.int (u 3) :: rest)) : Ev p l e R s m args below meth c cells slots Q D A nL (hx ad tc W g h Dv Sh u v z y) pc lv (.ref (ad 25) :: rest) :=
  E_get C hd F 25 rfl rfl k
theorem xp_8_7 (C : Cx p R s m args c own cc nL D tc tt A d) {idx : Nat} {w : Int32} (hd : decode cc pc = .ok (.putfield idx, 3)) (F : FLw own idx 8 7 .int) (k : Ev p l e R s m args below meth c cells slots Q D A nL (hx ad tc W g h Dv Sh (va_up u 3 w) v z y) (pc + 3) lv rest) : Ev p l e R s m args below meth c cells slots Q D A nL (hx ad tc W g h Dv Sh u v z y) pc lv (.int w :: .ref (ad 25) :: rest) :=
  E_put C hd F 25 rfl rfl rfl (Nat.le_of_ble_eq_true rfl) rfl k
theorem xa_26 (C : Cx p R s m args c own cc nL D tc tt A d) {i : Int32} (hd : decode cc pc = .ok (.iaload, 1)) (hin : vp_in i 256) (k : Ev p l e R s m args below meth c cells slots Q D A nL (hx ad tc W g h Dv Sh u v z y) (pc + 1) lv (.int (v 4 i.toNatClampNeg) :: rest)) : Ev p l e R s m args below meth c cells slots Q D A nL (hx ad tc W g h Dv Sh u v z y) pc lv (.int i :: .ref (ad 26) :: rest) :=
  E_iald C hd 26 rfl hin k
theorem xs_26 (C : Cx p R s m args c own cc nL D tc tt A d) {i : Int32} {w : Int32} (hd : decode cc pc = .ok (.iastore, 1)) (hin : vp_in i 256) (k : Ev p l e R s m args below meth c cells slots Q D A nL (hx ad tc W g h Dv Sh u (va_up v 4 (upd (v 4) i.toNatClampNeg w)) z y) (pc + 1) lv rest) : Ev p l e R s m args below meth c cells slots Q D A nL (hx ad tc W g h Dv Sh u v z y) pc lv (.int w :: .int i :: .ref (ad 26) :: rest) :=
  E_iast C hd 26 rfl hin rfl k
theorem xn_26 (C : Cx p R s m args c own cc nL D tc tt A d) (hd : decode cc pc = .ok (.arraylength, 1)) (k : Ev p l e R s m args below meth c cells slots Q D A nL (hx ad tc W g h Dv Sh u v z y) (pc + 1) lv (.int 256 :: rest)) : Ev p l e R s m args below meth c cells slots Q D A nL (hx ad tc W g h Dv Sh u v z y) pc lv (.ref (ad 26) :: rest) :=
  E_alen C hd 26 0 rfl rfl rfl k
theorem xa_27 (C : Cx p R s m args c own cc nL D tc tt A d) {i : Int32} (hd : decode cc pc = .ok (.iaload, 1)) (hin : vp_in i 256) (k : Ev p l e R s m args below meth c cells slots Q D A nL (hx ad tc W g h Dv Sh u v z y) (pc + 1) lv (.int (v 5 i.toNatClampNeg) :: rest)) : Ev p l e R s m args below meth c cells slots Q D A nL (hx ad tc W g h Dv Sh u v z y) pc lv (.int i :: .ref (ad 27) :: rest) :=
  E_iald C hd 27 rfl hin k
theorem xs_27 (C : Cx p R s m args c own cc nL D tc tt A d) {i : Int32} {w : Int32} (hd : decode cc pc = .ok (.iastore, 1)) (hin : vp_in i 256) (k : Ev p l e R s m args below meth c cells slots Q D A nL (hx ad tc W g h Dv Sh u (va_up v 5 (upd (v 5) i.toNatClampNeg w)) z y) (pc + 1) lv rest) : Ev p l e R s m args below meth c cells slots Q D A nL (hx ad tc W g h Dv Sh u v z y) pc lv (.int w :: .int i :: .ref (ad 27) :: rest) :=
  E_iast C hd 27 rfl hin rfl k
theorem xn_27 (C : Cx p R s m args c own cc nL D tc tt A d) (hd : decode cc pc = .ok (.arraylength, 1)) (k : Ev p l e R s m args below meth c cells slots Q D A nL (hx ad tc W g h Dv Sh u v z y) (pc + 1) lv (.int 256 :: rest)) : Ev p l e R s m args below meth c cells slots Q D A nL (hx ad tc W g h Dv Sh u v z y) pc lv (.ref (ad 27) :: rest) :=
  E_alen C hd 27 0 rfl rfl rfl k
theorem xa_28 (C : Cx p R s m args c own cc nL D tc tt A d) {i : Int32} (hd : decode cc pc = .ok (.iaload, 1)) (hin : vp_in i 256) (k : Ev p l e R s m args below meth c cells slots Q D A nL (hx ad tc W g h Dv Sh u v z y) (pc + 1) lv (.int (v 6 i.toNatClampNeg) :: rest)) : Ev p l e R s m args below meth c cells slots Q D A nL (hx ad tc W g h Dv Sh u v z y) pc lv (.int i :: .ref (ad 28) :: rest) :=
  E_iald C hd 28 rfl hin k
theorem xs_28 (C : Cx p R s m args c own cc nL D tc tt A d) {i : Int32} {w : Int32} (hd : decode cc pc = .ok (.iastore, 1)) (hin : vp_in i 256) (k : Ev p l e R s m args below meth c cells slots Q D A nL (hx ad tc W g h Dv Sh u (va_up v 6 (upd (v 6) i.toNatClampNeg w)) z y) (pc + 1) lv rest) : Ev p l e R s m args below meth c cells slots Q D A nL (hx ad tc W g h Dv Sh u v z y) pc lv (.int w :: .int i :: .ref (ad 28) :: rest) :=
  E_iast C hd 28 rfl hin rfl k
theorem xn_28 (C : Cx p R s m args c own cc nL D tc tt A d) (hd : decode cc pc = .ok (.arraylength, 1)) (k : Ev p l e R s m args below meth c cells slots Q D A nL (hx ad tc W g h Dv Sh u v z y) (pc + 1) lv (.int 256 :: rest)) : Ev p l e R s m args below meth c cells slots Q D A nL (hx ad tc W g h Dv Sh u v z y) pc lv (.ref (ad 28) :: rest) :=
  E_alen C hd 28 0 rfl rfl rfl k
theorem xa_29 (C : Cx p R s m args c own cc nL D tc tt A d) {i : Int32} (hd : decode cc pc = .ok (.laload, 1)) (hin : vp_in i 256) (k : Ev p l e R s m args below meth c cells slots Q D A nL (hx ad tc W g h Dv Sh u v z y) (pc + 1) lv (.long (y i.toNatClampNeg) :: rest)) : Ev p l e R s m args below meth c cells slots Q D A nL (hx ad tc W g h Dv Sh u v z y) pc lv (.int i :: .ref (ad 29) :: rest) :=
  E_lald C hd 29 rfl hin k
theorem xs_29 (C : Cx p R s m args c own cc nL D tc tt A d) {i : Int32} {w : Int64} (hd : decode cc pc = .ok (.lastore, 1)) (hin : vp_in i 256) (k : Ev p l e R s m args below meth c cells slots Q D A nL (hx ad tc W g h Dv Sh u v z ((vp_updL (y) i.toNatClampNeg w))) (pc + 1) lv rest) : Ev p l e R s m args below meth c cells slots Q D A nL (hx ad tc W g h Dv Sh u v z y) pc lv (.long w :: .int i :: .ref (ad 29) :: rest) :=
  E_last C hd 29 rfl hin rfl k
theorem xn_29 (C : Cx p R s m args c own cc nL D tc tt A d) (hd : decode cc pc = .ok (.arraylength, 1)) (k : Ev p l e R s m args below meth c cells slots Q D A nL (hx ad tc W g h Dv Sh u v z y) (pc + 1) lv (.int 256 :: rest)) : Ev p l e R s m args below meth c cells slots Q D A nL (hx ad tc W g h Dv Sh u v z y) pc lv (.ref (ad 29) :: rest) :=
  E_alen C hd 29 1 rfl rfl rfl k
theorem xg_2_0 (C : Cx p R s m args c own cc nL D tc tt A d) {idx : Nat} {ty : FieldType} (hd : decode cc pc = .ok (.getfield idx, 3)) (F : FL own idx 2 0 ty) (k : Ev p l e R s m args below meth c cells slots Q D A nL (hx ad tc W g h Dv Sh u v z y) (pc + 3) lv (.int (u 4) :: rest)) : Ev p l e R s m args below meth c cells slots Q D A nL (hx ad tc W g h Dv Sh u v z y) pc lv (.ref (ad 30) :: rest) :=
  E_get C hd F 30 rfl rfl k
theorem xp_2_0 (C : Cx p R s m args c own cc nL D tc tt A d) {idx : Nat} {w : Int32} (hd : decode cc pc = .ok (.putfield idx, 3)) (F : FLw own idx 2 0 .int) (k : Ev p l e R s m args below meth c cells slots Q D A nL (hx ad tc W g h Dv Sh (va_up u 4 w) v z y) (pc + 3) lv rest) : Ev p l e R s m args below meth c cells slots Q D A nL (hx ad tc W g h Dv Sh u v z y) pc lv (.int w :: .ref (ad 30) :: rest) :=
  E_put C hd F 30 rfl rfl rfl (Nat.le_of_ble_eq_true rfl) rfl k
theorem xg_4_0 (C : Cx p R s m args c own cc nL D tc tt A d) {idx : Nat} {ty : FieldType} (hd : decode cc pc = .ok (.getfield idx, 3)) (F : FL own idx 4 0 ty) (k : Ev p l e R s m args below meth c cells slots Q D A nL (hx ad tc W g h Dv Sh u v z y) (pc + 3) lv (.ref (ad 44) :: rest)) : Ev p l e R s m args below meth c cells slots Q D A nL (hx ad tc W g h Dv Sh u v z y) pc lv (.ref (ad 31) :: rest) :=
  E_get C hd F 31 rfl rfl k
theorem xg_4_1 (C : Cx p R s m args c own cc nL D tc tt A d) {idx : Nat} {ty : FieldType} (hd : decode cc pc = .ok (.getfield idx, 3)) (F : FL own idx 4 1 ty) (k : Ev p l e R s m args below meth c cells slots Q D A nL (hx ad tc W g h Dv Sh u v z y) (pc + 3) lv (.ref (ad 48) :: rest)) : Ev p l e R s m args below meth c cells slots Q D A nL (hx ad tc W g h Dv Sh u v z y) pc lv (.ref (ad 31) :: rest) :=
  E_get C hd F 31 rfl rfl k
theorem xg_4_2 (C : Cx p R s m args c own cc nL D tc tt A d) {idx : Nat} {ty : FieldType} (hd : decode cc pc = .ok (.getfield idx, 3)) (F : FL own idx 4 2 ty) (k : Ev p l e R s m args below meth c cells slots Q D A nL (hx ad tc W g h Dv Sh u v z y) (pc + 3) lv (.int (g 6) :: rest)) : Ev p l e R s m args below meth c cells slots Q D A nL (hx ad tc W g h Dv Sh u v z y) pc lv (.ref (ad 31) :: rest) :=
  E_get C hd F 31 rfl rfl k
theorem xp_4_2 (C : Cx p R s m args c own cc nL D tc tt A d) {idx : Nat} {w : Int32} (hd : decode cc pc = .ok (.putfield idx, 3)) (F : FLw own idx 4 2 .int) (k : Ev p l e R s m args below meth c cells slots Q D A nL (hx ad tc W (va_up g 6 w) h Dv Sh u v z y) (pc + 3) lv rest) : Ev p l e R s m args below meth c cells slots Q D A nL (hx ad tc W g h Dv Sh u v z y) pc lv (.int w :: .ref (ad 31) :: rest) :=
  E_put C hd F 31 rfl rfl rfl (Nat.le_of_ble_eq_true rfl) rfl k
theorem xg_4_3 (C : Cx p R s m args c own cc nL D tc tt A d) {idx : Nat} {ty : FieldType} (hd : decode cc pc = .ok (.getfield idx, 3)) (F : FL own idx 4 3 ty) (k : Ev p l e R s m args below meth c cells slots Q D A nL (hx ad tc W g h Dv Sh u v z y) (pc + 3) lv (.int (g 7) :: rest)) : Ev p l e R s m args below meth c cells slots Q D A nL (hx ad tc W g h Dv Sh u v z y) pc lv (.ref (ad 31) :: rest) :=
  E_get C hd F 31 rfl rfl k
theorem xp_4_3 (C : Cx p R s m args c own cc nL D tc tt A d) {idx : Nat} {w : Int32} (hd : decode cc pc = .ok (.putfield idx, 3)) (F : FLw own idx 4 3 .int) (k : Ev p l e R s m args below meth c cells slots Q D A nL (hx ad tc W (va_up g 7 w) h Dv Sh u v z y) (pc + 3) lv rest) : Ev p l e R s m args below meth c cells slots Q D A nL (hx ad tc W g h Dv Sh u v z y) pc lv (.int w :: .ref (ad 31) :: rest) :=
  E_put C hd F 31 rfl rfl rfl (Nat.le_of_ble_eq_true rfl) rfl k
theorem xg_4_4 (C : Cx p R s m args c own cc nL D tc tt A d) {idx : Nat} {ty : FieldType} (hd : decode cc pc = .ok (.getfield idx, 3)) (F : FL own idx 4 4 ty) (k : Ev p l e R s m args below meth c cells slots Q D A nL (hx ad tc W g h Dv Sh u v z y) (pc + 3) lv (.int (g 8) :: rest)) : Ev p l e R s m args below meth c cells slots Q D A nL (hx ad tc W g h Dv Sh u v z y) pc lv (.ref (ad 31) :: rest) :=
  E_get C hd F 31 rfl rfl k
theorem xp_4_4 (C : Cx p R s m args c own cc nL D tc tt A d) {idx : Nat} {w : Int32} (hd : decode cc pc = .ok (.putfield idx, 3)) (F : FLw own idx 4 4 .int) (k : Ev p l e R s m args below meth c cells slots Q D A nL (hx ad tc W (va_up g 8 w) h Dv Sh u v z y) (pc + 3) lv rest) : Ev p l e R s m args below meth c cells slots Q D A nL (hx ad tc W g h Dv Sh u v z y) pc lv (.int w :: .ref (ad 31) :: rest) :=
  E_put C hd F 31 rfl rfl rfl (Nat.le_of_ble_eq_true rfl) rfl k
theorem xg_4_5 (C : Cx p R s m args c own cc nL D tc tt A d) {idx : Nat} {ty : FieldType} (hd : decode cc pc = .ok (.getfield idx, 3)) (F : FL own idx 4 5 ty) (k : Ev p l e R s m args below meth c cells slots Q D A nL (hx ad tc W g h Dv Sh u v z y) (pc + 3) lv (.int (g 9) :: rest)) : Ev p l e R s m args below meth c cells slots Q D A nL (hx ad tc W g h Dv Sh u v z y) pc lv (.ref (ad 31) :: rest) :=
  E_get C hd F 31 rfl rfl k
theorem xp_4_5 (C : Cx p R s m args c own cc nL D tc tt A d) {idx : Nat} {w : Int32} (hd : decode cc pc = .ok (.putfield idx, 3)) (F : FLw own idx 4 5 .int) (k : Ev p l e R s m args below meth c cells slots Q D A nL (hx ad tc W (va_up g 9 w) h Dv Sh u v z y) (pc + 3) lv rest) : Ev p l e R s m args below meth c cells slots Q D A nL (hx ad tc W g h Dv Sh u v z y) pc lv (.int w :: .ref (ad 31) :: rest) :=
  E_put C hd F 31 rfl rfl rfl (Nat.le_of_ble_eq_true rfl) rfl k
theorem xg_4_6 (C : Cx p R s m args c own cc nL D tc tt A d) {idx : Nat} {ty : FieldType} (hd : decode cc pc = .ok (.getfield idx, 3)) (F : FL own idx 4 6 ty) (k : Ev p l e R s m args below meth c cells slots Q D A nL (hx ad tc W g h Dv Sh u v z y) (pc + 3) lv (.int (g 10) :: rest)) : Ev p l e R s m args below meth c cells slots Q D A nL (hx ad tc W g h Dv Sh u v z y) pc lv (.ref (ad 31) :: rest) :=
  E_get C hd F 31 rfl rfl k
theorem xp_4_6 (C : Cx p R s m args c own cc nL D tc tt A d) {idx : Nat} {w : Int32} (hd : decode cc pc = .ok (.putfield idx, 3)) (F : FLw own idx 4 6 .boolean) (hn : narrow .boolean (.int w) = .int w) (hf : fits .boolean (.int w) = true) (k : Ev p l e R s m args below meth c cells slots Q D A nL (hx ad tc W (va_up g 10 w) h Dv Sh u v z y) (pc + 3) lv rest) : Ev p l e R s m args below meth c cells slots Q D A nL (hx ad tc W g h Dv Sh u v z y) pc lv (.int w :: .ref (ad 31) :: rest) :=
  E_put C hd F 31 rfl hn hf (Nat.le_of_ble_eq_true rfl) rfl k
theorem xg_0_0 (C : Cx p R s m args c own cc nL D tc tt A d) {idx : Nat} {ty : FieldType} (hd : decode cc pc = .ok (.getfield idx, 3)) (F : FL own idx 0 0 ty) (k : Ev p l e R s m args below meth c cells slots Q D A nL (hx ad tc W g h Dv Sh u v z y) (pc + 3) lv (.ref (ad 33) :: rest)) : Ev p l e R s m args below meth c cells slots Q D A nL (hx ad tc W g h Dv Sh u v z y) pc lv (.ref (ad 32) :: rest) :=
  E_get C hd F 32 rfl rfl k
theorem xg_0_1 (C : Cx p R s m args c own cc nL D tc tt A d) {idx : Nat} {ty : FieldType} (hd : decode cc pc = .ok (.getfield idx, 3)) (F : FL own idx 0 1 ty) (k : Ev p l e R s m args below meth c cells slots Q D A nL (hx ad tc W g h Dv Sh u v z y) (pc + 3) lv (.ref (ad 34) :: rest)) : Ev p l e R s m args below meth c cells slots Q D A nL (hx ad tc W g h Dv Sh u v z y) pc lv (.ref (ad 32) :: rest) :=
  E_get C hd F 32 rfl rfl k
theorem xg_0_2 (C : Cx p R s m args c own cc nL D tc tt A d) {idx : Nat} {ty : FieldType} (hd : decode cc pc = .ok (.getfield idx, 3)) (F : FL own idx 0 2 ty) (k : Ev p l e R s m args below meth c cells slots Q D A nL (hx ad tc W g h Dv Sh u v z y) (pc + 3) lv (.int (g 11) :: rest)) : Ev p l e R s m args below meth c cells slots Q D A nL (hx ad tc W g h Dv Sh u v z y) pc lv (.ref (ad 32) :: rest) :=
  E_get C hd F 32 rfl rfl k
theorem xp_0_2 (C : Cx p R s m args c own cc nL D tc tt A d) {idx : Nat} {w : Int32} (hd : decode cc pc = .ok (.putfield idx, 3)) (F : FLw own idx 0 2 .int) (k : Ev p l e R s m args below meth c cells slots Q D A nL (hx ad tc W (va_up g 11 w) h Dv Sh u v z y) (pc + 3) lv rest) : Ev p l e R s m args below meth c cells slots Q D A nL (hx ad tc W g h Dv Sh u v z y) pc lv (.int w :: .ref (ad 32) :: rest) :=
  E_put C hd F 32 rfl rfl rfl (Nat.le_of_ble_eq_true rfl) rfl k
theorem xg_0_3 (C : Cx p R s m args c own cc nL D tc tt A d) {idx : Nat} {ty : FieldType} (hd : decode cc pc = .ok (.getfield idx, 3)) (F : FL own idx 0 3 ty) (k : Ev p l e R s m args below meth c cells slots Q D A nL (hx ad tc W g h Dv Sh u v z y) (pc + 3) lv (.int (g 12) :: rest)) : Ev p l e R s m args below meth c cells slots Q D A nL (hx ad tc W g h Dv Sh u v z y) pc lv (.ref (ad 32) :: rest) :=
  E_get C hd F 32 rfl rfl k
theorem xp_0_3 (C : Cx p R s m args c own cc nL D tc tt A d) {idx : Nat} {w : Int32} (hd : decode cc pc = .ok (.putfield idx, 3)) (F : FLw own idx 0 3 .int) (k : Ev p l e R s m args below meth c cells slots Q D A nL (hx ad tc W (va_up g 12 w) h Dv Sh u v z y) (pc + 3) lv rest) : Ev p l e R s m args below meth c cells slots Q D A nL (hx ad tc W g h Dv Sh u v z y) pc lv (.int w :: .ref (ad 32) :: rest) :=
  E_put C hd F 32 rfl rfl rfl (Nat.le_of_ble_eq_true rfl) rfl k
theorem xa_33 (C : Cx p R s m args c own cc nL D tc tt A d) {i : Int32} (hd : decode cc pc = .ok (.iaload, 1)) (hin : vp_in i 50) (k : Ev p l e R s m args below meth c cells slots Q D A nL (hx ad tc W g h Dv Sh u v z y) (pc + 1) lv (.int (h 7 i.toNatClampNeg) :: rest)) : Ev p l e R s m args below meth c cells slots Q D A nL (hx ad tc W g h Dv Sh u v z y) pc lv (.int i :: .ref (ad 33) :: rest) :=
  E_iald C hd 33 rfl hin k
theorem xs_33 (C : Cx p R s m args c own cc nL D tc tt A d) {i : Int32} {w : Int32} (hd : decode cc pc = .ok (.iastore, 1)) (hin : vp_in i 50) (k : Ev p l e R s m args below meth c cells slots Q D A nL (hx ad tc W g (va_up h 7 (upd (h 7) i.toNatClampNeg w)) Dv Sh u v z y) (pc + 1) lv rest) : Ev p l e R s m args below meth c cells slots Q D A nL (hx ad tc W g h Dv Sh u v z y) pc lv (.int w :: .int i :: .ref (ad 33) :: rest) :=
  E_iast C hd 33 rfl hin rfl k
theorem xn_33 (C : Cx p R s m args c own cc nL D tc tt A d) (hd : decode cc pc = .ok (.arraylength, 1)) (k : Ev p l e R s m args below meth c cells slots Q D A nL (hx ad tc W g h Dv Sh u v z y) (pc + 1) lv (.int 50 :: rest)) : Ev p l e R s m args below meth c cells slots Q D A nL (hx ad tc W g h Dv Sh u v z y) pc lv (.ref (ad 33) :: rest) :=
  E_alen C hd 33 0 rfl rfl rfl k
theorem xa_34 (C : Cx p R s m args c own cc nL D tc tt A d) {i : Int32} (hd : decode cc pc = .ok (.iaload, 1)) (hin : vp_in i 24) (k : Ev p l e R s m args below meth c cells slots Q D A nL (hx ad tc W g h Dv Sh u v z y) (pc + 1) lv (.int (h 8 i.toNatClampNeg) :: rest)) : Ev p l e R s m args below meth c cells slots Q D A nL (hx ad tc W g h Dv Sh u v z y) pc lv (.int i :: .ref (ad 34) :: rest) :=
  E_iald C hd 34 rfl hin k
theorem xs_34 (C : Cx p R s m args c own cc nL D tc tt A d) {i : Int32} {w : Int32} (hd : decode cc pc = .ok (.iastore, 1)) (hin : vp_in i 24) (k : Ev p l e R s m args below meth c cells slots Q D A nL (hx ad tc W g (va_up h 8 (upd (h 8) i.toNatClampNeg w)) Dv Sh u v z y) (pc + 1) lv rest) : Ev p l e R s m args below meth c cells slots Q D A nL (hx ad tc W g h Dv Sh u v z y) pc lv (.int w :: .int i :: .ref (ad 34) :: rest) :=
  E_iast C hd 34 rfl hin rfl k
theorem xn_34 (C : Cx p R s m args c own cc nL D tc tt A d) (hd : decode cc pc = .ok (.arraylength, 1)) (k : Ev p l e R s m args below meth c cells slots Q D A nL (hx ad tc W g h Dv Sh u v z y) (pc + 1) lv (.int 24 :: rest)) : Ev p l e R s m args below meth c cells slots Q D A nL (hx ad tc W g h Dv Sh u v z y) pc lv (.ref (ad 34) :: rest) :=
  E_alen C hd 34 0 rfl rfl rfl k
theorem xat_dr0 {b : Nat} (hi : b < 4) : (hx ad tc W g h Dv Sh u v z y)[(36 + 4 * b)]? = some (ad (36 + 4 * b), .inr (3, [.ref (ad 1), .ref (ad (37 + 4 * b)), .ref (ad (38 + 4 * b)), .ref (ad (39 + 4 * b)), .int ((Dv b).1 0), .int ((Dv b).1 1), .int ((Dv b).1 2), .int ((Dv b).1 3), .int ((Dv b).1 4), .int ((Dv b).1 5), .int ((Dv b).1 6), .int ((Dv b).1 7), .int ((Dv b).1 8)])) := by
  rcases (show b = 0 ∨ b = 1 ∨ b = 2 ∨ b = 3 by omega) with rfl | rfl | rfl | rfl <;> rfl
theorem xg_3_0 (C : Cx p R s m args c own cc nL D tc tt A d) {idx : Nat} {ty : FieldType} {b : Nat} (hi : b < 4) (hd : decode cc pc = .ok (.getfield idx, 3)) (F : FL own idx 3 0 ty) (k : Ev p l e R s m args below meth c cells slots Q D A nL (hx ad tc W g h Dv Sh u v z y) (pc + 3) lv (.ref (ad 1) :: rest)) : Ev p l e R s m args below meth c cells slots Q D A nL (hx ad tc W g h Dv Sh u v z y) pc lv (.ref (ad (36 + 4 * b)) :: rest) :=
  E_get C hd F _ (xat_dr0 hi) rfl k
theorem xg_3_1 (C : Cx p R s m args c own cc nL D tc tt A d) {idx : Nat} {ty : FieldType} {b : Nat} (hi : b < 4) (hd : decode cc pc = .ok (.getfield idx, 3)) (F : FL own idx 3 1 ty) (k : Ev p l e R s m args below meth c cells slots Q D A nL (hx ad tc W g h Dv Sh u v z y) (pc + 3) lv (.ref (ad (37 + 4 * b)) :: rest)) : Ev p l e R s m args below meth c cells slots Q D A nL (hx ad tc W g h Dv Sh u v z y) pc lv (.ref (ad (36 + 4 * b)) :: rest) :=
  E_get C hd F _ (xat_dr0 hi) rfl k
theorem xg_3_2 (C : Cx p R s m args c own cc nL D tc tt A d) {idx : Nat} {ty : FieldType} {b : Nat} (hi : b < 4) (hd : decode cc pc = .ok (.getfield idx, 3)) (F : FL own idx 3 2 ty) (k : Ev p l e R s m args below meth c cells slots Q D A nL (hx ad tc W g h Dv Sh u v z y) (pc + 3) lv (.ref (ad (38 + 4 * b)) :: rest)) : Ev p l e R s m args below meth c cells slots Q D A nL (hx ad tc W g h Dv Sh u v z y) pc lv (.ref (ad (36 + 4 * b)) :: rest) :=
  E_get C hd F _ (xat_dr0 hi) rfl k
theorem xg_3_3 (C : Cx p R s m args c own cc nL D tc tt A d) {idx : Nat} {ty : FieldType} {b : Nat} (hi : b < 4) (hd : decode cc pc = .ok (.getfield idx, 3)) (F : FL own idx 3 3 ty) (k : Ev p l e R s m args below meth c cells slots Q D A nL (hx ad tc W g h Dv Sh u v z y) (pc + 3) lv (.ref (ad (39 + 4 * b)) :: rest)) : Ev p l e R s m args below meth c cells slots Q D A nL (hx ad tc W g h Dv Sh u v z y) pc lv (.ref (ad (36 + 4 * b)) :: rest) :=
  E_get C hd F _ (xat_dr0 hi) rfl k
theorem xg_3_4 (C : Cx p R s m args c own cc nL D tc tt A d) {idx : Nat} {ty : FieldType} {b : Nat} (hi : b < 4) (hd : decode cc pc = .ok (.getfield idx, 3)) (F : FL own idx 3 4 ty) (k : Ev p l e R s m args below meth c cells slots Q D A nL (hx ad tc W g h Dv Sh u v z y) (pc + 3) lv (.int ((Dv b).1 0) :: rest)) : Ev p l e R s m args below meth c cells slots Q D A nL (hx ad tc W g h Dv Sh u v z y) pc lv (.ref (ad (36 + 4 * b)) :: rest) :=
  E_get C hd F _ (xat_dr0 hi) rfl k
theorem xp_3_4 (C : Cx p R s m args c own cc nL D tc tt A d) {idx : Nat} {w : Int32} {b : Nat} (hi : b < 4) (hd : decode cc pc = .ok (.putfield idx, 3)) (F : FLw own idx 3 4 .boolean) (hn : narrow .boolean (.int w) = .int w) (hf : fits .boolean (.int w) = true) (k : Ev p l e R s m args below meth c cells slots Q D A nL (hx ad tc W g h (va_up Dv b (va_up (Dv b).1 0 w, (Dv b).2)) Sh u v z y) (pc + 3) lv rest) : Ev p l e R s m args below meth c cells slots Q D A nL (hx ad tc W g h Dv Sh u v z y) pc lv (.int w :: .ref (ad (36 + 4 * b)) :: rest) :=
  E_put C hd F _ (xat_dr0 hi) hn hf (Nat.le_of_ble_eq_true rfl) (by rcases (show b = 0 ∨ b = 1 ∨ b = 2 ∨ b = 3 by omega) with rfl | rfl | rfl | rfl <;> rfl) k
theorem xg_3_5 (C : Cx p R s m args c own cc nL D tc tt A d) {idx : Nat} {ty : FieldType} {b : Nat} (hi : b < 4) (hd : decode cc pc = .ok (.getfield idx, 3)) (F : FL own idx 3 5 ty) (k : Ev p l e R s m args below meth c cells slots Q D A nL (hx ad tc W g h Dv Sh u v z y) (pc + 3) lv (.int ((Dv b).1 1) :: rest)) : Ev p l e R s m args below meth c cells slots Q D A nL (hx ad tc W g h Dv Sh u v z y) pc lv (.ref (ad (36 + 4 * b)) :: rest) :=
  E_get C hd F _ (xat_dr0 hi) rfl k
theorem xp_3_5 (C : Cx p R s m args c own cc nL D tc tt A d) {idx : Nat} {w : Int32} {b : Nat} (hi : b < 4) (hd : decode cc pc = .ok (.putfield idx, 3)) (F : FLw own idx 3 5 .int) (k : Ev p l e R s m args below meth c cells slots Q D A nL (hx ad tc W g h (va_up Dv b (va_up (Dv b).1 1 w, (Dv b).2)) Sh u v z y) (pc + 3) lv rest) : Ev p l e R s m args below meth c cells slots Q D A nL (hx ad tc W g h Dv Sh u v z y) pc lv (.int w :: .ref (ad (36 + 4 * b)) :: rest) :=
  E_put C hd F _ (xat_dr0 hi) rfl rfl (Nat.le_of_ble_eq_true rfl) (by rcases (show b = 0 ∨ b = 1 ∨ b = 2 ∨ b = 3 by omega) with rfl | rfl | rfl | rfl <;> rfl) k
theorem xg_3_6 (C : Cx p R s m args c own cc nL D tc tt A d) {idx : Nat} {ty : FieldType} {b : Nat} (hi : b < 4) (hd : decode cc pc = .ok (.getfield idx, 3)) (F : FL own idx 3 6 ty) (k : Ev p l e R s m args below meth c cells slots Q D A nL (hx ad tc W g h Dv Sh u v z y) (pc + 3) lv (.int ((Dv b).1 2) :: rest)) : Ev p l e R s m args below meth c cells slots Q D A nL (hx ad tc W g h Dv Sh u v z y) pc lv (.ref (ad (36 + 4 * b)) :: rest) :=
  E_get C hd F _ (xat_dr0 hi) rfl k
theorem xp_3_6 (C : Cx p R s m args c own cc nL D tc tt A d) {idx : Nat} {w : Int32} {b : Nat} (hi : b < 4) (hd : decode cc pc = .ok (.putfield idx, 3)) (F : FLw own idx 3 6 .int) (k : Ev p l e R s m args below meth c cells slots Q D A nL (hx ad tc W g h (va_up Dv b (va_up (Dv b).1 2 w, (Dv b).2)) Sh u v z y) (pc + 3) lv rest) : Ev p l e R s m args below meth c cells slots Q D A nL (hx ad tc W g h Dv Sh u v z y) pc lv (.int w :: .ref (ad (36 + 4 * b)) :: rest) :=
  E_put C hd F _ (xat_dr0 hi) rfl rfl (Nat.le_of_ble_eq_true rfl) (by rcases (show b = 0 ∨ b = 1 ∨ b = 2 ∨ b = 3 by omega) with rfl | rfl | rfl | rfl <;> rfl) k
theorem xg_3_7 (C : Cx p R s m args c own cc nL D tc tt A d) {idx : Nat} {ty : FieldType} {b : Nat} (hi : b < 4) (hd : decode cc pc = .ok (.getfield idx, 3)) (F : FL own idx 3 7 ty) (k : Ev p l e R s m args below meth c cells slots Q D A nL (hx ad tc W g h Dv Sh u v z y) (pc + 3) lv (.int ((Dv b).1 3) :: rest)) : Ev p l e R s m args below meth c cells slots Q D A nL (hx ad tc W g h Dv Sh u v z y) pc lv (.ref (ad (36 + 4 * b)) :: rest) :=
  E_get C hd F _ (xat_dr0 hi) rfl k
theorem xp_3_7 (C : Cx p R s m args c own cc nL D tc tt A d) {idx : Nat} {w : Int32} {b : Nat} (hi : b < 4) (hd : decode cc pc = .ok (.putfield idx, 3)) (F : FLw own idx 3 7 .int) (k : Ev p l e R s m args below meth c cells slots Q D A nL (hx ad tc W g h (va_up Dv b (va_up (Dv b).1 3 w, (Dv b).2)) Sh u v z y) (pc + 3) lv rest) : Ev p l e R s m args below meth c cells slots Q D A nL (hx ad tc W g h Dv Sh u v z y) pc lv (.int w :: .ref (ad (36 + 4 * b)) :: rest) :=
  E_put C hd F _ (xat_dr0 hi) rfl rfl (Nat.le_of_ble_eq_true rfl) (by rcases (show b = 0 ∨ b = 1 ∨ b = 2 ∨ b = 3 by omega) with rfl | rfl | rfl | rfl <;> rfl) k
theorem xg_3_8 (C : Cx p R s m args c own cc nL D tc tt A d) {idx : Nat} {ty : FieldType} {b : Nat} (hi : b < 4) (hd : decode cc pc = .ok (.getfield idx, 3)) (F : FL own idx 3 8 ty) (k : Ev p l e R s m args below meth c cells slots Q D A nL (hx ad tc W g h Dv Sh u v z y) (pc + 3) lv (.int ((Dv b).1 4) :: rest)) : Ev p l e R s m args below meth c cells slots Q D A nL (hx ad tc W g h Dv Sh u v z y) pc lv (.ref (ad (36 + 4 * b)) :: rest) :=
  E_get C hd F _ (xat_dr0 hi) rfl k
theorem xp_3_8 (C : Cx p R s m args c own cc nL D tc tt A d) {idx : Nat} {w : Int32} {b : Nat} (hi : b < 4) (hd : decode cc pc = .ok (.putfield idx, 3)) (F : FLw own idx 3 8 .int) (k : Ev p l e R s m args below meth c cells slots Q D A nL (hx ad tc W g h (va_up Dv b (va_up (Dv b).1 4 w, (Dv b).2)) Sh u v z y) (pc + 3) lv rest) : Ev p l e R s m args below meth c cells slots Q D A nL (hx ad tc W g h Dv Sh u v z y) pc lv (.int w :: .ref (ad (36 + 4 * b)) :: rest) :=
  E_put C hd F _ (xat_dr0 hi) rfl rfl (Nat.le_of_ble_eq_true rfl) (by rcases (show b = 0 ∨ b = 1 ∨ b = 2 ∨ b = 3 by omega) with rfl | rfl | rfl | rfl <;> rfl) k
theorem xg_3_9 (C : Cx p R s m args c own cc nL D tc tt A d) {idx : Nat} {ty : FieldType} {b : Nat} (hi : b < 4) (hd : decode cc pc = .ok (.getfield idx, 3)) (F : FL own idx 3 9 ty) (k : Ev p l e R s m args below meth c cells slots Q D A nL (hx ad tc W g h Dv Sh u v z y) (pc + 3) lv (.int ((Dv b).1 5) :: rest)) : Ev p l e R s m args below meth c cells slots Q D A nL (hx ad tc W g h Dv Sh u v z y) pc lv (.ref (ad (36 + 4 * b)) :: rest) :=
  E_get C hd F _ (xat_dr0 hi) rfl k
theorem xp_3_9 (C : Cx p R s m args c own cc nL D tc tt A d) {idx : Nat} {w : Int32} {b : Nat} (hi : b < 4) (hd : decode cc pc = .ok (.putfield idx, 3)) (F : FLw own idx 3 9 .int) (k : Ev p l e R s m args below meth c cells slots Q D A nL (hx ad tc W g h (va_up Dv b (va_up (Dv b).1 5 w, (Dv b).2)) Sh u v z y) (pc + 3) lv rest) : Ev p l e R s m args below meth c cells slots Q D A nL (hx ad tc W g h Dv Sh u v z y) pc lv (.int w :: .ref (ad (36 + 4 * b)) :: rest) :=
  E_put C hd F _ (xat_dr0 hi) rfl rfl (Nat.le_of_ble_eq_true rfl) (by rcases (show b = 0 ∨ b = 1 ∨ b = 2 ∨ b = 3 by omega) with rfl | rfl | rfl | rfl <;> rfl) k
theorem xg_3_10 (C : Cx p R s m args c own cc nL D tc tt A d) {idx : Nat} {ty : FieldType} {b : Nat} (hi : b < 4) (hd : decode cc pc = .ok (.getfield idx, 3)) (F : FL own idx 3 10 ty) (k : Ev p l e R s m args below meth c cells slots Q D A nL (hx ad tc W g h Dv Sh u v z y) (pc + 3) lv (.int ((Dv b).1 6) :: rest)) : Ev p l e R s m args below meth c cells slots Q D A nL (hx ad tc W g h Dv Sh u v z y) pc lv (.ref (ad (36 + 4 * b)) :: rest) :=
  E_get C hd F _ (xat_dr0 hi) rfl k
theorem xp_3_10 (C : Cx p R s m args c own cc nL D tc tt A d) {idx : Nat} {w : Int32} {b : Nat} (hi : b < 4) (hd : decode cc pc = .ok (.putfield idx, 3)) (F : FLw own idx 3 10 .int) (k : Ev p l e R s m args below meth c cells slots Q D A nL (hx ad tc W g h (va_up Dv b (va_up (Dv b).1 6 w, (Dv b).2)) Sh u v z y) (pc + 3) lv rest) : Ev p l e R s m args below meth c cells slots Q D A nL (hx ad tc W g h Dv Sh u v z y) pc lv (.int w :: .ref (ad (36 + 4 * b)) :: rest) :=
  E_put C hd F _ (xat_dr0 hi) rfl rfl (Nat.le_of_ble_eq_true rfl) (by rcases (show b = 0 ∨ b = 1 ∨ b = 2 ∨ b = 3 by omega) with rfl | rfl | rfl | rfl <;> rfl) k
theorem xg_3_11 (C : Cx p R s m args c own cc nL D tc tt A d) {idx : Nat} {ty : FieldType} {b : Nat} (hi : b < 4) (hd : decode cc pc = .ok (.getfield idx, 3)) (F : FL own idx 3 11 ty) (k : Ev p l e R s m args below meth c cells slots Q D A nL (hx ad tc W g h Dv Sh u v z y) (pc + 3) lv (.int ((Dv b).1 7) :: rest)) : Ev p l e R s m args below meth c cells slots Q D A nL (hx ad tc W g h Dv Sh u v z y) pc lv (.ref (ad (36 + 4 * b)) :: rest) :=
  E_get C hd F _ (xat_dr0 hi) rfl k
theorem xp_3_11 (C : Cx p R s m args c own cc nL D tc tt A d) {idx : Nat} {w : Int32} {b : Nat} (hi : b < 4) (hd : decode cc pc = .ok (.putfield idx, 3)) (F : FLw own idx 3 11 .int) (k : Ev p l e R s m args below meth c cells slots Q D A nL (hx ad tc W g h (va_up Dv b (va_up (Dv b).1 7 w, (Dv b).2)) Sh u v z y) (pc + 3) lv rest) : Ev p l e R s m args below meth c cells slots Q D A nL (hx ad tc W g h Dv Sh u v z y) pc lv (.int w :: .ref (ad (36 + 4 * b)) :: rest) :=
  E_put C hd F _ (xat_dr0 hi) rfl rfl (Nat.le_of_ble_eq_true rfl) (by rcases (show b = 0 ∨ b = 1 ∨ b = 2 ∨ b = 3 by omega) with rfl | rfl | rfl | rfl <;> rfl) k
theorem xg_3_12 (C : Cx p R s m args c own cc nL D tc tt A d) {idx : Nat} {ty : FieldType} {b : Nat} (hi : b < 4) (hd : decode cc pc = .ok (.getfield idx, 3)) (F : FL own idx 3 12 ty) (k : Ev p l e R s m args below meth c cells slots Q D A nL (hx ad tc W g h Dv Sh u v z y) (pc + 3) lv (.int ((Dv b).1 8) :: rest)) : Ev p l e R s m args below meth c cells slots Q D A nL (hx ad tc W g h Dv Sh u v z y) pc lv (.ref (ad (36 + 4 * b)) :: rest) :=
  E_get C hd F _ (xat_dr0 hi) rfl k
theorem xp_3_12 (C : Cx p R s m args c own cc nL D tc tt A d) {idx : Nat} {w : Int32} {b : Nat} (hi : b < 4) (hd : decode cc pc = .ok (.putfield idx, 3)) (F : FLw own idx 3 12 .int) (k : Ev p l e R s m args below meth c cells slots Q D A nL (hx ad tc W g h (va_up Dv b (va_up (Dv b).1 8 w, (Dv b).2)) Sh u v z y) (pc + 3) lv rest) : Ev p l e R s m args below meth c cells slots Q D A nL (hx ad tc W g h Dv Sh u v z y) pc lv (.int w :: .ref (ad (36 + 4 * b)) :: rest) :=
  E_put C hd F _ (xat_dr0 hi) rfl rfl (Nat.le_of_ble_eq_true rfl) (by rcases (show b = 0 ∨ b = 1 ∨ b = 2 ∨ b = 3 by omega) with rfl | rfl | rfl | rfl <;> rfl) k
theorem xat_dr1 {b : Nat} (hi : b < 4) : (hx ad tc W g h Dv Sh u v z y)[(37 + 4 * b)]? = some (ad (37 + 4 * b), .inl (tc 0, 8, .inl ((Dv b).2 0))) := by
  rcases (show b = 0 ∨ b = 1 ∨ b = 2 ∨ b = 3 by omega) with rfl | rfl | rfl | rfl <;> rfl
theorem xa_dr1 (C : Cx p R s m args c own cc nL D tc tt A d) {b : Nat} (hi : b < 4) {i : Int32} (hd : decode cc pc = .ok (.iaload, 1)) (hin : vp_in i 8) (k : Ev p l e R s m args below meth c cells slots Q D A nL (hx ad tc W g h Dv Sh u v z y) (pc + 1) lv (.int ((Dv b).2 0 i.toNatClampNeg) :: rest)) : Ev p l e R s m args below meth c cells slots Q D A nL (hx ad tc W g h Dv Sh u v z y) pc lv (.int i :: .ref (ad (37 + 4 * b)) :: rest) :=
  E_iald C hd _ (xat_dr1 hi) hin k
theorem xs_dr1 (C : Cx p R s m args c own cc nL D tc tt A d) {b : Nat} (hi : b < 4) {i : Int32} {w : Int32} (hd : decode cc pc = .ok (.iastore, 1)) (hin : vp_in i 8) (k : Ev p l e R s m args below meth c cells slots Q D A nL (hx ad tc W g h (va_up Dv b ((Dv b).1, va_up (Dv b).2 0 (upd ((Dv b).2 0) i.toNatClampNeg w))) Sh u v z y) (pc + 1) lv rest) : Ev p l e R s m args below meth c cells slots Q D A nL (hx ad tc W g h Dv Sh u v z y) pc lv (.int w :: .int i :: .ref (ad (37 + 4 * b)) :: rest) :=
  E_iast C hd _ (xat_dr1 hi) hin (by rcases (show b = 0 ∨ b = 1 ∨ b = 2 ∨ b = 3 by omega) with rfl | rfl | rfl | rfl <;> rfl) k
theorem xat_dr2 {b : Nat} (hi : b < 4) : (hx ad tc W g h Dv Sh u v z y)[(38 + 4 * b)]? = some (ad (38 + 4 * b), .inl (tc 0, 8, .inl ((Dv b).2 1))) := by
  rcases (show b = 0 ∨ b = 1 ∨ b = 2 ∨ b = 3 by omega) with rfl | rfl | rfl | rfl <;> rfl
theorem xa_dr2 (C : Cx p R s m args c own cc nL D tc tt A d) {b : Nat} (hi : b < 4) {i : Int32} (hd : decode cc pc = .ok (.iaload, 1)) (hin : vp_in i 8) (k : Ev p l e R s m args below meth c cells slots Q D A nL (hx ad tc W g h Dv Sh u v z y) (pc + 1) lv (.int ((Dv b).2 1 i.toNatClampNeg) :: rest)) : Ev p l e R s m args below meth c cells slots Q D A nL (hx ad tc W g h Dv Sh u v z y) pc lv (.int i :: .ref (ad (38 + 4 * b)) :: rest) :=
  E_iald C hd _ (xat_dr2 hi) hin k
theorem xs_dr2 (C : Cx p R s m args c own cc nL D tc tt A d) {b : Nat} (hi : b < 4) {i : Int32} {w : Int32} (hd : decode cc pc = .ok (.iastore, 1)) (hin : vp_in i 8) (k : Ev p l e R s m args below meth c cells slots Q D A nL (hx ad tc W g h (va_up Dv b ((Dv b).1, va_up (Dv b).2 1 (upd ((Dv b).2 1) i.toNatClampNeg w))) Sh u v z y) (pc + 1) lv rest) : Ev p l e R s m args below meth c cells slots Q D A nL (hx ad tc W g h Dv Sh u v z y) pc lv (.int w :: .int i :: .ref (ad (38 + 4 * b)) :: rest) :=
  E_iast C hd _ (xat_dr2 hi) hin (by rcases (show b = 0 ∨ b = 1 ∨ b = 2 ∨ b = 3 by omega) with rfl | rfl | rfl | rfl <;> rfl) k
theorem xat_dr3 {b : Nat} (hi : b < 4) : (hx ad tc W g h Dv Sh u v z y)[(39 + 4 * b)]? = some (ad (39 + 4 * b), .inl (tc 0, 8, .inl ((Dv b).2 2))) := by
  rcases (show b = 0 ∨ b = 1 ∨ b = 2 ∨ b = 3 by omega) with rfl | rfl | rfl | rfl <;> rfl
theorem xa_dr3 (C : Cx p R s m args c own cc nL D tc tt A d) {b : Nat} (hi : b < 4) {i : Int32} (hd : decode cc pc = .ok (.iaload, 1)) (hin : vp_in i 8) (k : Ev p l e R s m args below meth c cells slots Q D A nL (hx ad tc W g h Dv Sh u v z y) (pc + 1) lv (.int ((Dv b).2 2 i.toNatClampNeg) :: rest)) : Ev p l e R s m args below meth c cells slots Q D A nL (hx ad tc W g h Dv Sh u v z y) pc lv (.int i :: .ref (ad (39 + 4 * b)) :: rest) :=
  E_iald C hd _ (xat_dr3 hi) hin k
theorem xs_dr3 (C : Cx p R s m args c own cc nL D tc tt A d) {b : Nat} (hi : b < 4) {i : Int32} {w : Int32} (hd : decode cc pc = .ok (.iastore, 1)) (hin : vp_in i 8) (k : Ev p l e R s m args below meth c cells slots Q D A nL (hx ad tc W g h (va_up Dv b ((Dv b).1, va_up (Dv b).2 2 (upd ((Dv b).2 2) i.toNatClampNeg w))) Sh u v z y) (pc + 1) lv rest) : Ev p l e R s m args below meth c cells slots Q D A nL (hx ad tc W g h Dv Sh u v z y) pc lv (.int w :: .int i :: .ref (ad (39 + 4 * b)) :: rest) :=
  E_iast C hd _ (xat_dr3 hi) hin (by rcases (show b = 0 ∨ b = 1 ∨ b = 2 ∨ b = 3 by omega) with rfl | rfl | rfl | rfl <;> rfl) k
theorem xat_sh0 {b : Nat} (hi : b < 6) : (hx ad tc W g h Dv Sh u v z y)[(52 + 2 * b)]? = some (ad (52 + 2 * b), .inr (7, [.ref (ad (53 + 2 * b)), .int ((Sh b).1 0), .int ((Sh b).1 1), .int ((Sh b).1 2), .int ((Sh b).1 3)])) := by
  rcases (show b = 0 ∨ b = 1 ∨ b = 2 ∨ b = 3 ∨ b = 4 ∨ b = 5 by omega) with rfl | rfl | rfl | rfl | rfl | rfl <;> rfl
theorem xg_7_0 (C : Cx p R s m args c own cc nL D tc tt A d) {idx : Nat} {ty : FieldType} {b : Nat} (hi : b < 6) (hd : decode cc pc = .ok (.getfield idx, 3)) (F : FL own idx 7 0 ty) (k : Ev p l e R s m args below meth c cells slots Q D A nL (hx ad tc W g h Dv Sh u v z y) (pc + 3) lv (.ref (ad (53 + 2 * b)) :: rest)) : Ev p l e R s m args below meth c cells slots Q D A nL (hx ad tc W g h Dv Sh u v z y) pc lv (.ref (ad (52 + 2 * b)) :: rest) :=
  E_get C hd F _ (xat_sh0 hi) rfl k
theorem xg_7_1 (C : Cx p R s m args c own cc nL D tc tt A d) {idx : Nat} {ty : FieldType} {b : Nat} (hi : b < 6) (hd : decode cc pc = .ok (.getfield idx, 3)) (F : FL own idx 7 1 ty) (k : Ev p l e R s m args below meth c cells slots Q D A nL (hx ad tc W g h Dv Sh u v z y) (pc + 3) lv (.int ((Sh b).1 0) :: rest)) : Ev p l e R s m args below meth c cells slots Q D A nL (hx ad tc W g h Dv Sh u v z y) pc lv (.ref (ad (52 + 2 * b)) :: rest) :=
  E_get C hd F _ (xat_sh0 hi) rfl k
theorem xp_7_1 (C : Cx p R s m args c own cc nL D tc tt A d) {idx : Nat} {w : Int32} {b : Nat} (hi : b < 6) (hd : decode cc pc = .ok (.putfield idx, 3)) (F : FLw own idx 7 1 .int) (k : Ev p l e R s m args below meth c cells slots Q D A nL (hx ad tc W g h Dv (va_up Sh b (va_up (Sh b).1 0 w, (Sh b).2)) u v z y) (pc + 3) lv rest) : Ev p l e R s m args below meth c cells slots Q D A nL (hx ad tc W g h Dv Sh u v z y) pc lv (.int w :: .ref (ad (52 + 2 * b)) :: rest) :=
  E_put C hd F _ (xat_sh0 hi) rfl rfl (Nat.le_of_ble_eq_true rfl) (by rcases (show b = 0 ∨ b = 1 ∨ b = 2 ∨ b = 3 ∨ b = 4 ∨ b = 5 by omega) with rfl | rfl | rfl | rfl | rfl | rfl <;> rfl) k
theorem xg_7_2 (C : Cx p R s m args c own cc nL D tc tt A d) {idx : Nat} {ty : FieldType} {b : Nat} (hi : b < 6) (hd : decode cc pc = .ok (.getfield idx, 3)) (F : FL own idx 7 2 ty) (k : Ev p l e R s m args below meth c cells slots Q D A nL (hx ad tc W g h Dv Sh u v z y) (pc + 3) lv (.int ((Sh b).1 1) :: rest)) : Ev p l e R s m args below meth c cells slots Q D A nL (hx ad tc W g h Dv Sh u v z y) pc lv (.ref (ad (52 + 2 * b)) :: rest) :=
  E_get C hd F _ (xat_sh0 hi) rfl k
theorem xp_7_2 (C : Cx p R s m args c own cc nL D tc tt A d) {idx : Nat} {w : Int32} {b : Nat} (hi : b < 6) (hd : decode cc pc = .ok (.putfield idx, 3)) (F : FLw own idx 7 2 .int) (k : Ev p l e R s m args below meth c cells slots Q D A nL (hx ad tc W g h Dv (va_up Sh b (va_up (Sh b).1 1 w, (Sh b).2)) u v z y) (pc + 3) lv rest) : Ev p l e R s m args below meth c cells slots Q D A nL (hx ad tc W g h Dv Sh u v z y) pc lv (.int w :: .ref (ad (52 + 2 * b)) :: rest) :=
  E_put C hd F _ (xat_sh0 hi) rfl rfl (Nat.le_of_ble_eq_true rfl) (by rcases (show b = 0 ∨ b = 1 ∨ b = 2 ∨ b = 3 ∨ b = 4 ∨ b = 5 by omega) with rfl | rfl | rfl | rfl | rfl | rfl <;> rfl) k
theorem xg_7_3 (C : Cx p R s m args c own cc nL D tc tt A d) {idx : Nat} {ty : FieldType} {b : Nat} (hi : b < 6) (hd : decode cc pc = .ok (.getfield idx, 3)) (F : FL own idx 7 3 ty) (k : Ev p l e R s m args below meth c cells slots Q D A nL (hx ad tc W g h Dv Sh u v z y) (pc + 3) lv (.int ((Sh b).1 2) :: rest)) : Ev p l e R s m args below meth c cells slots Q D A nL (hx ad tc W g h Dv Sh u v z y) pc lv (.ref (ad (52 + 2 * b)) :: rest) :=
  E_get C hd F _ (xat_sh0 hi) rfl k
theorem xp_7_3 (C : Cx p R s m args c own cc nL D tc tt A d) {idx : Nat} {w : Int32} {b : Nat} (hi : b < 6) (hd : decode cc pc = .ok (.putfield idx, 3)) (F : FLw own idx 7 3 .int) (k : Ev p l e R s m args below meth c cells slots Q D A nL (hx ad tc W g h Dv (va_up Sh b (va_up (Sh b).1 2 w, (Sh b).2)) u v z y) (pc + 3) lv rest) : Ev p l e R s m args below meth c cells slots Q D A nL (hx ad tc W g h Dv Sh u v z y) pc lv (.int w :: .ref (ad (52 + 2 * b)) :: rest) :=
  E_put C hd F _ (xat_sh0 hi) rfl rfl (Nat.le_of_ble_eq_true rfl) (by rcases (show b = 0 ∨ b = 1 ∨ b = 2 ∨ b = 3 ∨ b = 4 ∨ b = 5 by omega) with rfl | rfl | rfl | rfl | rfl | rfl <;> rfl) k
theorem xg_7_4 (C : Cx p R s m args c own cc nL D tc tt A d) {idx : Nat} {ty : FieldType} {b : Nat} (hi : b < 6) (hd : decode cc pc = .ok (.getfield idx, 3)) (F : FL own idx 7 4 ty) (k : Ev p l e R s m args below meth c cells slots Q D A nL (hx ad tc W g h Dv Sh u v z y) (pc + 3) lv (.int ((Sh b).1 3) :: rest)) : Ev p l e R s m args below meth c cells slots Q D A nL (hx ad tc W g h Dv Sh u v z y) pc lv (.ref (ad (52 + 2 * b)) :: rest) :=
  E_get C hd F _ (xat_sh0 hi) rfl k
theorem xp_7_4 (C : Cx p R s m args c own cc nL D tc tt A d) {idx : Nat} {w : Int32} {b : Nat} (hi : b < 6) (hd : decode cc pc = .ok (.putfield idx, 3)) (F : FLw own idx 7 4 .int) (k : Ev p l e R s m args below meth c cells slots Q D A nL (hx ad tc W g h Dv (va_up Sh b (va_up (Sh b).1 3 w, (Sh b).2)) u v z y) (pc + 3) lv rest) : Ev p l e R s m args below meth c cells slots Q D A nL (hx ad tc W g h Dv Sh u v z y) pc lv (.int w :: .ref (ad (52 + 2 * b)) :: rest) :=
  E_put C hd F _ (xat_sh0 hi) rfl rfl (Nat.le_of_ble_eq_true rfl) (by rcases (show b = 0 ∨ b = 1 ∨ b = 2 ∨ b = 3 ∨ b = 4 ∨ b = 5 by omega) with rfl | rfl | rfl | rfl | rfl | rfl <;> rfl) k
theorem xat_sh1 {b : Nat} (hi : b < 6) : (hx ad tc W g h Dv Sh u v z y)[(53 + 2 * b)]? = some (ad (53 + 2 * b), .inl (tc 1, 60, .inr (.inl ((Sh b).2)))) := by
  rcases (show b = 0 ∨ b = 1 ∨ b = 2 ∨ b = 3 ∨ b = 4 ∨ b = 5 by omega) with rfl | rfl | rfl | rfl | rfl | rfl <;> rfl
theorem xa_sh1 (C : Cx p R s m args c own cc nL D tc tt A d) {b : Nat} (hi : b < 6) {i : Int32} (hd : decode cc pc = .ok (.laload, 1)) (hin : vp_in i 60) (k : Ev p l e R s m args below meth c cells slots Q D A nL (hx ad tc W g h Dv Sh u v z y) (pc + 1) lv (.long ((Sh b).2 i.toNatClampNeg) :: rest)) : Ev p l e R s m args below meth c cells slots Q D A nL (hx ad tc W g h Dv Sh u v z y) pc lv (.int i :: .ref (ad (53 + 2 * b)) :: rest) :=
  E_lald C hd _ (xat_sh1 hi) hin k
theorem xs_sh1 (C : Cx p R s m args c own cc nL D tc tt A d) {b : Nat} (hi : b < 6) {i : Int32} {w : Int64} (hd : decode cc pc = .ok (.lastore, 1)) (hin : vp_in i 60) (k : Ev p l e R s m args below meth c cells slots Q D A nL (hx ad tc W g h Dv (va_up Sh b ((Sh b).1, (vp_updL ((Sh b).2) i.toNatClampNeg w))) u v z y) (pc + 1) lv rest) : Ev p l e R s m args below meth c cells slots Q D A nL (hx ad tc W g h Dv Sh u v z y) pc lv (.long w :: .int i :: .ref (ad (53 + 2 * b)) :: rest) :=
  E_last C hd _ (xat_sh1 hi) hin (by rcases (show b = 0 ∨ b = 1 ∨ b = 2 ∨ b = 3 ∨ b = 4 ∨ b = 5 by omega) with rfl | rfl | rfl | rfl | rfl | rfl <;> rfl) k
theorem xat_row {k : Nat} (hk : k < 8) : (hx ad tc W g h Dv Sh u v z y)[(3 + k)]? = some (ad (3 + k), .inl (tc 0, 8, .inl (W k))) := by
  obtain rfl | rfl | rfl | rfl | rfl | rfl | rfl | rfl : k = 0 ∨ k = 1 ∨ k = 2 ∨ k = 3 ∨ k = 4 ∨ k = 5 ∨ k = 6 ∨ k = 7 := by omega
  all_goals rfl
theorem xa_num (C : Cx p R s m args c own cc nL D tc tt A d) {i : Int32} (hd : decode cc pc = .ok (.aaload, 1)) (hin : vp_in i 8) (k : Ev p l e R s m args below meth c cells slots Q D A nL (hx ad tc W g h Dv Sh u v z y) (pc + 1) lv (.ref (ad (3 + i.toNatClampNeg)) :: rest)) : Ev p l e R s m args below meth c cells slots Q D A nL (hx ad tc W g h Dv Sh u v z y) pc lv (.int i :: .ref (ad 2) :: rest) := by
  refine E_aaldT C 4 rfl rfl hd 2 rfl hin ?_
  rw [if_pos (Nat.not_le.mp fun q => hin (Or.inr q))]
  exact k
theorem xa_row (C : Cx p R s m args c own cc nL D tc tt A d) {k : Nat} (hk : k < 8) {i : Int32} (hd : decode cc pc = .ok (.iaload, 1)) (hin : vp_in i 8) (kk : Ev p l e R s m args below meth c cells slots Q D A nL (hx ad tc W g h Dv Sh u v z y) (pc + 1) lv (.int (W k i.toNatClampNeg) :: rest)) : Ev p l e R s m args below meth c cells slots Q D A nL (hx ad tc W g h Dv Sh u v z y) pc lv (.int i :: .ref (ad (3 + k)) :: rest) :=
  E_iald C hd _ (xat_row hk) hin kk
theorem xs_row (C : Cx p R s m args c own cc nL D tc tt A d) {k : Nat} (hk : k < 8) {i w : Int32} (hd : decode cc pc = .ok (.iastore, 1)) (hin : vp_in i 8) (kk : Ev p l e R s m args below meth c cells slots Q D A nL (hx ad tc (va_up W k (upd (W k) i.toNatClampNeg w)) g h Dv Sh u v z y) (pc + 1) lv rest) : Ev p l e R s m args below meth c cells slots Q D A nL (hx ad tc W g h Dv Sh u v z y) pc lv (.int w :: .int i :: .ref (ad (3 + k)) :: rest) :=
  E_iast C hd _ (xat_row hk) hin (by
    obtain rfl | rfl | rfl | rfl | rfl | rfl | rfl | rfl : k = 0 ∨ k = 1 ∨ k = 2 ∨ k = 3 ∨ k = 4 ∨ k = 5 ∨ k = 6 ∨ k = 7 := by omega
    all_goals rfl) kk
theorem xa_shv (C : Cx p R s m args c own cc nL D tc tt A d) {i : Int32} (hd : decode cc pc = .ok (.aaload, 1)) (hin : vp_in i 6) (k : Ev p l e R s m args below meth c cells slots Q D A nL (hx ad tc W g h Dv Sh u v z y) (pc + 1) lv (.ref (ad (52 + 2 * i.toNatClampNeg)) :: rest)) : Ev p l e R s m args below meth c cells slots Q D A nL (hx ad tc W g h Dv Sh u v z y) pc lv (.int i :: .ref (ad 35) :: rest) := by
  refine E_aaldT C 5 rfl rfl hd 35 rfl hin ?_
  rw [if_pos (Nat.not_le.mp fun q => hin (Or.inr q))]
  exact k
theorem xn_num (C : Cx p R s m args c own cc nL D tc tt A d) (hd : decode cc pc = .ok (.arraylength, 1)) (k : Ev p l e R s m args below meth c cells slots Q D A nL (hx ad tc W g h Dv Sh u v z y) (pc + 1) lv (.int 8 :: rest)) : Ev p l e R s m args below meth c cells slots Q D A nL (hx ad tc W g h Dv Sh u v z y) pc lv (.ref (ad 2) :: rest) :=
  E_alen C hd 2 4 rfl rfl rfl k
theorem xn_shv (C : Cx p R s m args c own cc nL D tc tt A d) (hd : decode cc pc = .ok (.arraylength, 1)) (k : Ev p l e R s m args below meth c cells slots Q D A nL (hx ad tc W g h Dv Sh u v z y) (pc + 1) lv (.int 6 :: rest)) : Ev p l e R s m args below meth c cells slots Q D A nL (hx ad tc W g h Dv Sh u v z y) pc lv (.ref (ad 35) :: rest) :=
  E_alen C hd 35 5 rfl rfl rfl k
end WORLD
end
section
/-! the reference's world: registers by the numbers of its fields; g h el last, u v sf each call makes anew -/
def hm (ad tc : Nat → Nat) (g : Nat → Int32) (h : Nat → Nat → Int32) (el : Nat → Int64) (u : Nat → Int32) (v : Nat → Nat → Int32) (sf : Nat → Int64) : va_W :=
  [(ad 0, .inr (11, [.int (g 0), .int (g 1), .ref (ad 1), .ref (ad 2), .ref (ad 3), .ref (ad 4), .ref (ad 5), .ref (ad 6), .ref (ad 7), .int (g 9), .int (g 10), .int (g 11), .ref (ad 8), .ref (ad 9), .ref (ad 10), .ref (ad 11), .ref (ad 12), .int (g 17), .int (u 18), .int (u 19), .int (u 20), .int (u 21), .ref (ad 13), .ref (ad 14), .ref (ad 15), .ref (ad 16), .ref (ad 17), .ref (ad 18), .ref (ad 19), .int (g 29), .int (u 30), .int (u 31), .int (u 32), .int (u 33), .int (u 34), .int (u 35), .int (u 36), .ref (ad 20), .ref (ad 21), .ref (ad 22), .ref (ad 23), .int (u 41), .ref (ad 24), .ref (ad 25), .int (g 44), .int (g 45), .ref (ad 26), .int (g 47), .ref (ad 27), .ref (ad 28), .ref (ad 29), .ref (ad 30), .ref (ad 31)])),
   (ad 1, .inl (tc 0, 8, .inl (h 2))),
   (ad 2, .inl (tc 0, 8, .inl (h 3))),
   (ad 3, .inl (tc 0, 8, .inl (h 4))),
   (ad 4, .inl (tc 0, 8, .inl (h 5))),
   (ad 5, .inl (tc 0, 8, .inl (h 6))),
   (ad 6, .inl (tc 0, 6, .inl (h 7))),
   (ad 7, .inl (tc 0, 6, .inl (h 8))),
   (ad 8, .inl (tc 0, 40, .inl (h 12))),
   (ad 9, .inl (tc 0, 40, .inl (h 13))),
   (ad 10, .inl (tc 0, 40, .inl (h 14))),
   (ad 11, .inl (tc 0, 40, .inl (h 15))),
   (ad 12, .inl (tc 2, 120, .inl (h 16))),
   (ad 13, .inl (tc 2, 260, .inl (h 22))),
   (ad 14, .inl (tc 0, 260, .inl (h 23))),
   (ad 15, .inl (tc 0, 2, .inl (h 24))),
   (ad 16, .inl (tc 3, 122, .inl (h 25))),
   (ad 17, .inl (tc 3, 122, .inl (h 26))),
   (ad 18, .inl (tc 0, 5, .inl (v 27))),
   (ad 19, .inl (tc 0, 130, .inl (v 28))),
   (ad 20, .inl (tc 0, 8, .inl (v 37))),
   (ad 21, .inl (tc 0, 8, .inl (v 38))),
   (ad 22, .inl (tc 0, 8, .inl (v 39))),
   (ad 23, .inl (tc 0, 256, .inl (v 40))),
   (ad 24, .inl (tc 0, 9, .inl (h 42))),
   (ad 25, .inl (tc 0, 9, .inl (h 43))),
   (ad 26, .inl (tc 0, 50, .inl (h 46))),
   (ad 27, .inl (tc 0, 24, .inl (h 48))),
   (ad 28, .inl (tc 0, 6, .inl (h 49))),
   (ad 29, .inl (tc 0, 6, .inl (h 50))),
   (ad 30, .inl (tc 1, 360, .inr (.inl (el)))),
   (ad 31, .inl (tc 1, 60, .inr (.inl (sf))))]
section WORLD
variable {p : Program} {l : Launch} {e : Env} {R : Room} {s : State} {m : MethodId} {args : Array Value} {below : List Frame} {meth : Method} {c : Code} {cells slots : Nat} {Q : State → Prop} {D : va_G} {tc tt : Nat → Nat} {A : Nat → Prop} {own : String} {cc : ByteArray} {nL d pc : Nat} {lv : List (Nat × Value)} {rest : List Value} {ad : Nat → Nat} {g : Nat → Int32} {h : Nat → Nat → Int32} {el : Nat → Int64} {u : Nat → Int32} {v : Nat → Nat → Int32} {sf : Nat → Int64}
theorem mg_11_0 (C : Cx p R s m args c own cc nL D tc tt A d) {idx : Nat} {ty : FieldType} (hd : decode cc pc = .ok (.getfield idx, 3)) (F : FL own idx 11 0 ty) (k : Ev p l e R s m args below meth c cells slots Q D A nL (hm ad tc g h el u v sf) (pc + 3) lv (.int (g 0) :: rest)) : Ev p l e R s m args below meth c cells slots Q D A nL (hm ad tc g h el u v sf) pc lv (.ref (ad 0) :: rest) :=
  E_get C hd F 0 rfl rfl k
theorem mp_11_0 (C : Cx p R s m args c own cc nL D tc tt A d) {idx : Nat} {w : Int32} (hd : decode cc pc = .ok (.putfield idx, 3)) (F : FLw own idx 11 0 .int) (k : Ev p l e R s m args below meth c cells slots Q D A nL (hm ad tc (va_up g 0 w) h el u v sf) (pc + 3) lv rest) : Ev p l e R s m args below meth c cells slots Q D A nL (hm ad tc g h el u v sf) pc lv (.int w :: .ref (ad 0) :: rest) :=
  E_put C hd F 0 rfl rfl rfl (Nat.le_of_ble_eq_true rfl) rfl k
theorem mg_11_1 (C : Cx p R s m args c own cc nL D tc tt A d) {idx : Nat} {ty : FieldType} (hd : decode cc pc = .ok (.getfield idx, 3)) (F : FL own idx 11 1 ty) (k : Ev p l e R s m args below meth c cells slots Q D A nL (hm ad tc g h el u v sf) (pc + 3) lv (.int (g 1) :: rest)) : Ev p l e R s m args below meth c cells slots Q D A nL (hm ad tc g h el u v sf) pc lv (.ref (ad 0) :: rest) :=
  E_get C hd F 0 rfl rfl k
theorem mp_11_1 (C : Cx p R s m args c own cc nL D tc tt A d) {idx : Nat} {w : Int32} (hd : decode cc pc = .ok (.putfield idx, 3)) (F : FLw own idx 11 1 .int) (k : Ev p l e R s m args below meth c cells slots Q D A nL (hm ad tc (va_up g 1 w) h el u v sf) (pc + 3) lv rest) : Ev p l e R s m args below meth c cells slots Q D A nL (hm ad tc g h el u v sf) pc lv (.int w :: .ref (ad 0) :: rest) :=
  E_put C hd F 0 rfl rfl rfl (Nat.le_of_ble_eq_true rfl) rfl k
theorem mg_11_2 (C : Cx p R s m args c own cc nL D tc tt A d) {idx : Nat} {ty : FieldType} (hd : decode cc pc = .ok (.getfield idx, 3)) (F : FL own idx 11 2 ty) (k : Ev p l e R s m args below meth c cells slots Q D A nL (hm ad tc g h el u v sf) (pc + 3) lv (.ref (ad 1) :: rest)) : Ev p l e R s m args below meth c cells slots Q D A nL (hm ad tc g h el u v sf) pc lv (.ref (ad 0) :: rest) :=
  E_get C hd F 0 rfl rfl k
theorem mg_11_3 (C : Cx p R s m args c own cc nL D tc tt A d) {idx : Nat} {ty : FieldType} (hd : decode cc pc = .ok (.getfield idx, 3)) (F : FL own idx 11 3 ty) (k : Ev p l e R s m args below meth c cells slots Q D A nL (hm ad tc g h el u v sf) (pc + 3) lv (.ref (ad 2) :: rest)) : Ev p l e R s m args below meth c cells slots Q D A nL (hm ad tc g h el u v sf) pc lv (.ref (ad 0) :: rest) :=
  E_get C hd F 0 rfl rfl k
theorem mg_11_4 (C : Cx p R s m args c own cc nL D tc tt A d) {idx : Nat} {ty : FieldType} (hd : decode cc pc = .ok (.getfield idx, 3)) (F : FL own idx 11 4 ty) (k : Ev p l e R s m args below meth c cells slots Q D A nL (hm ad tc g h el u v sf) (pc + 3) lv (.ref (ad 3) :: rest)) : Ev p l e R s m args below meth c cells slots Q D A nL (hm ad tc g h el u v sf) pc lv (.ref (ad 0) :: rest) :=
  E_get C hd F 0 rfl rfl k
theorem mg_11_5 (C : Cx p R s m args c own cc nL D tc tt A d) {idx : Nat} {ty : FieldType} (hd : decode cc pc = .ok (.getfield idx, 3)) (F : FL own idx 11 5 ty) (k : Ev p l e R s m args below meth c cells slots Q D A nL (hm ad tc g h el u v sf) (pc + 3) lv (.ref (ad 4) :: rest)) : Ev p l e R s m args below meth c cells slots Q D A nL (hm ad tc g h el u v sf) pc lv (.ref (ad 0) :: rest) :=
  E_get C hd F 0 rfl rfl k
theorem mg_11_6 (C : Cx p R s m args c own cc nL D tc tt A d) {idx : Nat} {ty : FieldType} (hd : decode cc pc = .ok (.getfield idx, 3)) (F : FL own idx 11 6 ty) (k : Ev p l e R s m args below meth c cells slots Q D A nL (hm ad tc g h el u v sf) (pc + 3) lv (.ref (ad 5) :: rest)) : Ev p l e R s m args below meth c cells slots Q D A nL (hm ad tc g h el u v sf) pc lv (.ref (ad 0) :: rest) :=
  E_get C hd F 0 rfl rfl k
theorem mg_11_7 (C : Cx p R s m args c own cc nL D tc tt A d) {idx : Nat} {ty : FieldType} (hd : decode cc pc = .ok (.getfield idx, 3)) (F : FL own idx 11 7 ty) (k : Ev p l e R s m args below meth c cells slots Q D A nL (hm ad tc g h el u v sf) (pc + 3) lv (.ref (ad 6) :: rest)) : Ev p l e R s m args below meth c cells slots Q D A nL (hm ad tc g h el u v sf) pc lv (.ref (ad 0) :: rest) :=
  E_get C hd F 0 rfl rfl k
theorem mg_11_8 (C : Cx p R s m args c own cc nL D tc tt A d) {idx : Nat} {ty : FieldType} (hd : decode cc pc = .ok (.getfield idx, 3)) (F : FL own idx 11 8 ty) (k : Ev p l e R s m args below meth c cells slots Q D A nL (hm ad tc g h el u v sf) (pc + 3) lv (.ref (ad 7) :: rest)) : Ev p l e R s m args below meth c cells slots Q D A nL (hm ad tc g h el u v sf) pc lv (.ref (ad 0) :: rest) :=
  E_get C hd F 0 rfl rfl k
theorem mg_11_9 (C : Cx p R s m args c own cc nL D tc tt A d) {idx : Nat} {ty : FieldType} (hd : decode cc pc = .ok (.getfield idx, 3)) (F : FL own idx 11 9 ty) (k : Ev p l e R s m args below meth c cells slots Q D A nL (hm ad tc g h el u v sf) (pc + 3) lv (.int (g 9) :: rest)) : Ev p l e R s m args below meth c cells slots Q D A nL (hm ad tc g h el u v sf) pc lv (.ref (ad 0) :: rest) :=
  E_get C hd F 0 rfl rfl k
theorem mp_11_9 (C : Cx p R s m args c own cc nL D tc tt A d) {idx : Nat} {w : Int32} (hd : decode cc pc = .ok (.putfield idx, 3)) (F : FLw own idx 11 9 .int) (k : Ev p l e R s m args below meth c cells slots Q D A nL (hm ad tc (va_up g 9 w) h el u v sf) (pc + 3) lv rest) : Ev p l e R s m args below meth c cells slots Q D A nL (hm ad tc g h el u v sf) pc lv (.int w :: .ref (ad 0) :: rest) :=
  E_put C hd F 0 rfl rfl rfl (Nat.le_of_ble_eq_true rfl) rfl k
theorem mg_11_10 (C : Cx p R s m args c own cc nL D tc tt A d) {idx : Nat} {ty : FieldType} (hd : decode cc pc = .ok (.getfield idx, 3)) (F : FL own idx 11 10 ty) (k : Ev p l e R s m args below meth c cells slots Q D A nL (hm ad tc g h el u v sf) (pc + 3) lv (.int (g 10) :: rest)) : Ev p l e R s m args below meth c cells slots Q D A nL (hm ad tc g h el u v sf) pc lv (.ref (ad 0) :: rest) :=
  E_get C hd F 0 rfl rfl k
theorem mp_11_10 (C : Cx p R s m args c own cc nL D tc tt A d) {idx : Nat} {w : Int32} (hd : decode cc pc = .ok (.putfield idx, 3)) (F : FLw own idx 11 10 .int) (k : Ev p l e R s m args below meth c cells slots Q D A nL (hm ad tc (va_up g 10 w) h el u v sf) (pc + 3) lv rest) : Ev p l e R s m args below meth c cells slots Q D A nL (hm ad tc g h el u v sf) pc lv (.int w :: .ref (ad 0) :: rest) :=
  E_put C hd F 0 rfl rfl rfl (Nat.le_of_ble_eq_true rfl) rfl k
theorem mg_11_11 (C : Cx p R s m args c own cc nL D tc tt A d) {idx : Nat} {ty : FieldType} (hd : decode cc pc = .ok (.getfield idx, 3)) (F : FL own idx 11 11 ty) (k : Ev p l e R s m args below meth c cells slots Q D A nL (hm ad tc g h el u v sf) (pc + 3) lv (.int (g 11) :: rest)) : Ev p l e R s m args below meth c cells slots Q D A nL (hm ad tc g h el u v sf) pc lv (.ref (ad 0) :: rest) :=
  E_get C hd F 0 rfl rfl k
theorem mp_11_11 (C : Cx p R s m args c own cc nL D tc tt A d) {idx : Nat} {w : Int32} (hd : decode cc pc = .ok (.putfield idx, 3)) (F : FLw own idx 11 11 .int) (k : Ev p l e R s m args below meth c cells slots Q D A nL (hm ad tc (va_up g 11 w) h el u v sf) (pc + 3) lv rest) : Ev p l e R s m args below meth c cells slots Q D A nL (hm ad tc g h el u v sf) pc lv (.int w :: .ref (ad 0) :: rest) :=
  E_put C hd F 0 rfl rfl rfl (Nat.le_of_ble_eq_true rfl) rfl k
theorem mg_11_12 (C : Cx p R s m args c own cc nL D tc tt A d) {idx : Nat} {ty : FieldType} (hd : decode cc pc = .ok (.getfield idx, 3)) (F : FL own idx 11 12 ty) (k : Ev p l e R s m args below meth c cells slots Q D A nL (hm ad tc g h el u v sf) (pc + 3) lv (.ref (ad 8) :: rest)) : Ev p l e R s m args below meth c cells slots Q D A nL (hm ad tc g h el u v sf) pc lv (.ref (ad 0) :: rest) :=
  E_get C hd F 0 rfl rfl k
theorem mg_11_13 (C : Cx p R s m args c own cc nL D tc tt A d) {idx : Nat} {ty : FieldType} (hd : decode cc pc = .ok (.getfield idx, 3)) (F : FL own idx 11 13 ty) (k : Ev p l e R s m args below meth c cells slots Q D A nL (hm ad tc g h el u v sf) (pc + 3) lv (.ref (ad 9) :: rest)) : Ev p l e R s m args below meth c cells slots Q D A nL (hm ad tc g h el u v sf) pc lv (.ref (ad 0) :: rest) :=
  E_get C hd F 0 rfl rfl k
theorem mg_11_14 (C : Cx p R s m args c own cc nL D tc tt A d) {idx : Nat} {ty : FieldType} (hd : decode cc pc = .ok (.getfield idx, 3)) (F : FL own idx 11 14 ty) (k : Ev p l e R s m args below meth c cells slots Q D A nL (hm ad tc g h el u v sf) (pc + 3) lv (.ref (ad 10) :: rest)) : Ev p l e R s m args below meth c cells slots Q D A nL (hm ad tc g h el u v sf) pc lv (.ref (ad 0) :: rest) :=
  E_get C hd F 0 rfl rfl k
theorem mg_11_15 (C : Cx p R s m args c own cc nL D tc tt A d) {idx : Nat} {ty : FieldType} (hd : decode cc pc = .ok (.getfield idx, 3)) (F : FL own idx 11 15 ty) (k : Ev p l e R s m args below meth c cells slots Q D A nL (hm ad tc g h el u v sf) (pc + 3) lv (.ref (ad 11) :: rest)) : Ev p l e R s m args below meth c cells slots Q D A nL (hm ad tc g h el u v sf) pc lv (.ref (ad 0) :: rest) :=
  E_get C hd F 0 rfl rfl k
theorem mg_11_16 (C : Cx p R s m args c own cc nL D tc tt A d) {idx : Nat} {ty : FieldType} (hd : decode cc pc = .ok (.getfield idx, 3)) (F : FL own idx 11 16 ty) (k : Ev p l e R s m args below meth c cells slots Q D A nL (hm ad tc g h el u v sf) (pc + 3) lv (.ref (ad 12) :: rest)) : Ev p l e R s m args below meth c cells slots Q D A nL (hm ad tc g h el u v sf) pc lv (.ref (ad 0) :: rest) :=
  E_get C hd F 0 rfl rfl k
theorem mg_11_17 (C : Cx p R s m args c own cc nL D tc tt A d) {idx : Nat} {ty : FieldType} (hd : decode cc pc = .ok (.getfield idx, 3)) (F : FL own idx 11 17 ty) (k : Ev p l e R s m args below meth c cells slots Q D A nL (hm ad tc g h el u v sf) (pc + 3) lv (.int (g 17) :: rest)) : Ev p l e R s m args below meth c cells slots Q D A nL (hm ad tc g h el u v sf) pc lv (.ref (ad 0) :: rest) :=
  E_get C hd F 0 rfl rfl k
theorem mp_11_17 (C : Cx p R s m args c own cc nL D tc tt A d) {idx : Nat} {w : Int32} (hd : decode cc pc = .ok (.putfield idx, 3)) (F : FLw own idx 11 17 .int) (k : Ev p l e R s m args below meth c cells slots Q D A nL (hm ad tc (va_up g 17 w) h el u v sf) (pc + 3) lv rest) : Ev p l e R s m args below meth c cells slots Q D A nL (hm ad tc g h el u v sf) pc lv (.int w :: .ref (ad 0) :: rest) :=
  E_put C hd F 0 rfl rfl rfl (Nat.le_of_ble_eq_true rfl) rfl k
theorem mg_11_18 (C : Cx p R s m args c own cc nL D tc tt A d) {idx : Nat} {ty : FieldType} (hd : decode cc pc = .ok (.getfield idx, 3)) (F : FL own idx 11 18 ty) (k : Ev p l e R s m args below meth c cells slots Q D A nL (hm ad tc g h el u v sf) (pc + 3) lv (.int (u 18) :: rest)) : Ev p l e R s m args below meth c cells slots Q D A nL (hm ad tc g h el u v sf) pc lv (.ref (ad 0) :: rest) :=
  E_get C hd F 0 rfl rfl k
theorem mp_11_18 (C : Cx p R s m args c own cc nL D tc tt A d) {idx : Nat} {w : Int32} (hd : decode cc pc = .ok (.putfield idx, 3)) (F : FLw own idx 11 18 .int) (k : Ev p l e R s m args below meth c cells slots Q D A nL (hm ad tc g h el (va_up u 18 w) v sf) (pc + 3) lv rest) : Ev p l e R s m args below meth c cells slots Q D A nL (hm ad tc g h el u v sf) pc lv (.int w :: .ref (ad 0) :: rest) :=
  E_put C hd F 0 rfl rfl rfl (Nat.le_of_ble_eq_true rfl) rfl k
theorem mg_11_19 (C : Cx p R s m args c own cc nL D tc tt A d) {idx : Nat} {ty : FieldType} (hd : decode cc pc = .ok (.getfield idx, 3)) (F : FL own idx 11 19 ty) (k : Ev p l e R s m args below meth c cells slots Q D A nL (hm ad tc g h el u v sf) (pc + 3) lv (.int (u 19) :: rest)) : Ev p l e R s m args below meth c cells slots Q D A nL (hm ad tc g h el u v sf) pc lv (.ref (ad 0) :: rest) :=
  E_get C hd F 0 rfl rfl k
theorem mp_11_19 (C : Cx p R s m args c own cc nL D tc tt A d) {idx : Nat} {w : Int32} (hd : decode cc pc = .ok (.putfield idx, 3)) (F : FLw own idx 11 19 .int) (k : Ev p l e R s m args below meth c cells slots Q D A nL (hm ad tc g h el (va_up u 19 w) v sf) (pc + 3) lv rest) : Ev p l e R s m args below meth c cells slots Q D A nL (hm ad tc g h el u v sf) pc lv (.int w :: .ref (ad 0) :: rest) :=
  E_put C hd F 0 rfl rfl rfl (Nat.le_of_ble_eq_true rfl) rfl k
theorem mg_11_20 (C : Cx p R s m args c own cc nL D tc tt A d) {idx : Nat} {ty : FieldType} (hd : decode cc pc = .ok (.getfield idx, 3)) (F : FL own idx 11 20 ty) (k : Ev p l e R s m args below meth c cells slots Q D A nL (hm ad tc g h el u v sf) (pc + 3) lv (.int (u 20) :: rest)) : Ev p l e R s m args below meth c cells slots Q D A nL (hm ad tc g h el u v sf) pc lv (.ref (ad 0) :: rest) :=
  E_get C hd F 0 rfl rfl k
theorem mp_11_20 (C : Cx p R s m args c own cc nL D tc tt A d) {idx : Nat} {w : Int32} (hd : decode cc pc = .ok (.putfield idx, 3)) (F : FLw own idx 11 20 .int) (k : Ev p l e R s m args below meth c cells slots Q D A nL (hm ad tc g h el (va_up u 20 w) v sf) (pc + 3) lv rest) : Ev p l e R s m args below meth c cells slots Q D A nL (hm ad tc g h el u v sf) pc lv (.int w :: .ref (ad 0) :: rest) :=
  E_put C hd F 0 rfl rfl rfl (Nat.le_of_ble_eq_true rfl) rfl k
theorem mg_11_21 (C : Cx p R s m args c own cc nL D tc tt A d) {idx : Nat} {ty : FieldType} (hd : decode cc pc = .ok (.getfield idx, 3)) (F : FL own idx 11 21 ty) (k : Ev p l e R s m args below meth c cells slots Q D A nL (hm ad tc g h el u v sf) (pc + 3) lv (.int (u 21) :: rest)) : Ev p l e R s m args below meth c cells slots Q D A nL (hm ad tc g h el u v sf) pc lv (.ref (ad 0) :: rest) :=
  E_get C hd F 0 rfl rfl k
theorem mp_11_21 (C : Cx p R s m args c own cc nL D tc tt A d) {idx : Nat} {w : Int32} (hd : decode cc pc = .ok (.putfield idx, 3)) (F : FLw own idx 11 21 .int) (k : Ev p l e R s m args below meth c cells slots Q D A nL (hm ad tc g h el (va_up u 21 w) v sf) (pc + 3) lv rest) : Ev p l e R s m args below meth c cells slots Q D A nL (hm ad tc g h el u v sf) pc lv (.int w :: .ref (ad 0) :: rest) :=
  E_put C hd F 0 rfl rfl rfl (Nat.le_of_ble_eq_true rfl) rfl k
theorem mg_11_22 (C : Cx p R s m args c own cc nL D tc tt A d) {idx : Nat} {ty : FieldType} (hd : decode cc pc = .ok (.getfield idx, 3)) (F : FL own idx 11 22 ty) (k : Ev p l e R s m args below meth c cells slots Q D A nL (hm ad tc g h el u v sf) (pc + 3) lv (.ref (ad 13) :: rest)) : Ev p l e R s m args below meth c cells slots Q D A nL (hm ad tc g h el u v sf) pc lv (.ref (ad 0) :: rest) :=
  E_get C hd F 0 rfl rfl k
theorem mg_11_23 (C : Cx p R s m args c own cc nL D tc tt A d) {idx : Nat} {ty : FieldType} (hd : decode cc pc = .ok (.getfield idx, 3)) (F : FL own idx 11 23 ty) (k : Ev p l e R s m args below meth c cells slots Q D A nL (hm ad tc g h el u v sf) (pc + 3) lv (.ref (ad 14) :: rest)) : Ev p l e R s m args below meth c cells slots Q D A nL (hm ad tc g h el u v sf) pc lv (.ref (ad 0) :: rest) :=
  E_get C hd F 0 rfl rfl k
theorem mg_11_24 (C : Cx p R s m args c own cc nL D tc tt A d) {idx : Nat} {ty : FieldType} (hd : decode cc pc = .ok (.getfield idx, 3)) (F : FL own idx 11 24 ty) (k : Ev p l e R s m args below meth c cells slots Q D A nL (hm ad tc g h el u v sf) (pc + 3) lv (.ref (ad 15) :: rest)) : Ev p l e R s m args below meth c cells slots Q D A nL (hm ad tc g h el u v sf) pc lv (.ref (ad 0) :: rest) :=
  E_get C hd F 0 rfl rfl k
theorem mg_11_25 (C : Cx p R s m args c own cc nL D tc tt A d) {idx : Nat} {ty : FieldType} (hd : decode cc pc = .ok (.getfield idx, 3)) (F : FL own idx 11 25 ty) (k : Ev p l e R s m args below meth c cells slots Q D A nL (hm ad tc g h el u v sf) (pc + 3) lv (.ref (ad 16) :: rest)) : Ev p l e R s m args below meth c cells slots Q D A nL (hm ad tc g h el u v sf) pc lv (.ref (ad 0) :: rest) :=
  E_get C hd F 0 rfl rfl k
theorem mg_11_26 (C : Cx p R s m args c own cc nL D tc tt A d) {idx : Nat} {ty : FieldType} (hd : decode cc pc = .ok (.getfield idx, 3)) (F : FL own idx 11 26 ty) (k : Ev p l e R s m args below meth c cells slots Q D A nL (hm ad tc g h el u v sf) (pc + 3) lv (.ref (ad 17) :: rest)) : Ev p l e R s m args below meth c cells slots Q D A nL (hm ad tc g h el u v sf) pc lv (.ref (ad 0) :: rest) :=
  E_get C hd F 0 rfl rfl k
theorem mg_11_27 (C : Cx p R s m args c own cc nL D tc tt A d) {idx : Nat} {ty : FieldType} (hd : decode cc pc = .ok (.getfield idx, 3)) (F : FL own idx 11 27 ty) (k : Ev p l e R s m args below meth c cells slots Q D A nL (hm ad tc g h el u v sf) (pc + 3) lv (.ref (ad 18) :: rest)) : Ev p l e R s m args below meth c cells slots Q D A nL (hm ad tc g h el u v sf) pc lv (.ref (ad 0) :: rest) :=
  E_get C hd F 0 rfl rfl k
theorem mg_11_28 (C : Cx p R s m args c own cc nL D tc tt A d) {idx : Nat} {ty : FieldType} (hd : decode cc pc = .ok (.getfield idx, 3)) (F : FL own idx 11 28 ty) (k : Ev p l e R s m args below meth c cells slots Q D A nL (hm ad tc g h el u v sf) (pc + 3) lv (.ref (ad 19) :: rest)) : Ev p l e R s m args below meth c cells slots Q D A nL (hm ad tc g h el u v sf) pc lv (.ref (ad 0) :: rest) :=
  E_get C hd F 0 rfl rfl k
theorem mg_11_29 (C : Cx p R s m args c own cc nL D tc tt A d) {idx : Nat} {ty : FieldType} (hd : decode cc pc = .ok (.getfield idx, 3)) (F : FL own idx 11 29 ty) (k : Ev p l e R s m args below meth c cells slots Q D A nL (hm ad tc g h el u v sf) (pc + 3) lv (.int (g 29) :: rest)) : Ev p l e R s m args below meth c cells slots Q D A nL (hm ad tc g h el u v sf) pc lv (.ref (ad 0) :: rest) :=
  E_get C hd F 0 rfl rfl k
theorem mp_11_29 (C : Cx p R s m args c own cc nL D tc tt A d) {idx : Nat} {w : Int32} (hd : decode cc pc = .ok (.putfield idx, 3)) (F : FLw own idx 11 29 .boolean) (hn : narrow .boolean (.int w) = .int w) (hf : fits .boolean (.int w) = true) (k : Ev p l e R s m args below meth c cells slots Q D A nL (hm ad tc (va_up g 29 w) h el u v sf) (pc + 3) lv rest) : Ev p l e R s m args below meth c cells slots Q D A nL (hm ad tc g h el u v sf) pc lv (.int w :: .ref (ad 0) :: rest) :=
  E_put C hd F 0 rfl hn hf (Nat.le_of_ble_eq_true rfl) rfl k
theorem mg_11_30 (C : Cx p R s m args c own cc nL D tc tt A d) {idx : Nat} {ty : FieldType} (hd : decode cc pc = .ok (.getfield idx, 3)) (F : FL own idx 11 30 ty) (k : Ev p l e R s m args below meth c cells slots Q D A nL (hm ad tc g h el u v sf) (pc + 3) lv (.int (u 30) :: rest)) : Ev p l e R s m args below meth c cells slots Q D A nL (hm ad tc g h el u v sf) pc lv (.ref (ad 0) :: rest) :=
  E_get C hd F 0 rfl rfl k
theorem mp_11_30 (C : Cx p R s m args c own cc nL D tc tt A d) {idx : Nat} {w : Int32} (hd : decode cc pc = .ok (.putfield idx, 3)) (F : FLw own idx 11 30 .int) (k : Ev p l e R s m args below meth c cells slots Q D A nL (hm ad tc g h el (va_up u 30 w) v sf) (pc + 3) lv rest) : Ev p l e R s m args below meth c cells slots Q D A nL (hm ad tc g h el u v sf) pc lv (.int w :: .ref (ad 0) :: rest) :=
  E_put C hd F 0 rfl rfl rfl (Nat.le_of_ble_eq_true rfl) rfl k
theorem mg_11_31 (C : Cx p R s m args c own cc nL D tc tt A d) {idx : Nat} {ty : FieldType} (hd : decode cc pc = .ok (.getfield idx, 3)) (F : FL own idx 11 31 ty) (k : Ev p l e R s m args below meth c cells slots Q D A nL (hm ad tc g h el u v sf) (pc + 3) lv (.int (u 31) :: rest)) : Ev p l e R s m args below meth c cells slots Q D A nL (hm ad tc g h el u v sf) pc lv (.ref (ad 0) :: rest) :=
  E_get C hd F 0 rfl rfl k
theorem mp_11_31 (C : Cx p R s m args c own cc nL D tc tt A d) {idx : Nat} {w : Int32} (hd : decode cc pc = .ok (.putfield idx, 3)) (F : FLw own idx 11 31 .int) (k : Ev p l e R s m args below meth c cells slots Q D A nL (hm ad tc g h el (va_up u 31 w) v sf) (pc + 3) lv rest) : Ev p l e R s m args below meth c cells slots Q D A nL (hm ad tc g h el u v sf) pc lv (.int w :: .ref (ad 0) :: rest) :=
  E_put C hd F 0 rfl rfl rfl (Nat.le_of_ble_eq_true rfl) rfl k
theorem mg_11_32 (C : Cx p R s m args c own cc nL D tc tt A d) {idx : Nat} {ty : FieldType} (hd : decode cc pc = .ok (.getfield idx, 3)) (F : FL own idx 11 32 ty) (k : Ev p l e R s m args below meth c cells slots Q D A nL (hm ad tc g h el u v sf) (pc + 3) lv (.int (u 32) :: rest)) : Ev p l e R s m args below meth c cells slots Q D A nL (hm ad tc g h el u v sf) pc lv (.ref (ad 0) :: rest) :=
  E_get C hd F 0 rfl rfl k
theorem mp_11_32 (C : Cx p R s m args c own cc nL D tc tt A d) {idx : Nat} {w : Int32} (hd : decode cc pc = .ok (.putfield idx, 3)) (F : FLw own idx 11 32 .int) (k : Ev p l e R s m args below meth c cells slots Q D A nL (hm ad tc g h el (va_up u 32 w) v sf) (pc + 3) lv rest) : Ev p l e R s m args below meth c cells slots Q D A nL (hm ad tc g h el u v sf) pc lv (.int w :: .ref (ad 0) :: rest) :=
  E_put C hd F 0 rfl rfl rfl (Nat.le_of_ble_eq_true rfl) rfl k
theorem mg_11_33 (C : Cx p R s m args c own cc nL D tc tt A d) {idx : Nat} {ty : FieldType} (hd : decode cc pc = .ok (.getfield idx, 3)) (F : FL own idx 11 33 ty) (k : Ev p l e R s m args below meth c cells slots Q D A nL (hm ad tc g h el u v sf) (pc + 3) lv (.int (u 33) :: rest)) : Ev p l e R s m args below meth c cells slots Q D A nL (hm ad tc g h el u v sf) pc lv (.ref (ad 0) :: rest) :=
  E_get C hd F 0 rfl rfl k
theorem mp_11_33 (C : Cx p R s m args c own cc nL D tc tt A d) {idx : Nat} {w : Int32} (hd : decode cc pc = .ok (.putfield idx, 3)) (F : FLw own idx 11 33 .int) (k : Ev p l e R s m args below meth c cells slots Q D A nL (hm ad tc g h el (va_up u 33 w) v sf) (pc + 3) lv rest) : Ev p l e R s m args below meth c cells slots Q D A nL (hm ad tc g h el u v sf) pc lv (.int w :: .ref (ad 0) :: rest) :=
  E_put C hd F 0 rfl rfl rfl (Nat.le_of_ble_eq_true rfl) rfl k
theorem mg_11_34 (C : Cx p R s m args c own cc nL D tc tt A d) {idx : Nat} {ty : FieldType} (hd : decode cc pc = .ok (.getfield idx, 3)) (F : FL own idx 11 34 ty) (k : Ev p l e R s m args below meth c cells slots Q D A nL (hm ad tc g h el u v sf) (pc + 3) lv (.int (u 34) :: rest)) : Ev p l e R s m args below meth c cells slots Q D A nL (hm ad tc g h el u v sf) pc lv (.ref (ad 0) :: rest) :=
  E_get C hd F 0 rfl rfl k
theorem mp_11_34 (C : Cx p R s m args c own cc nL D tc tt A d) {idx : Nat} {w : Int32} (hd : decode cc pc = .ok (.putfield idx, 3)) (F : FLw own idx 11 34 .int) (k : Ev p l e R s m args below meth c cells slots Q D A nL (hm ad tc g h el (va_up u 34 w) v sf) (pc + 3) lv rest) : Ev p l e R s m args below meth c cells slots Q D A nL (hm ad tc g h el u v sf) pc lv (.int w :: .ref (ad 0) :: rest) :=
  E_put C hd F 0 rfl rfl rfl (Nat.le_of_ble_eq_true rfl) rfl k
theorem mg_11_35 (C : Cx p R s m args c own cc nL D tc tt A d) {idx : Nat} {ty : FieldType} (hd : decode cc pc = .ok (.getfield idx, 3)) (F : FL own idx 11 35 ty) (k : Ev p l e R s m args below meth c cells slots Q D A nL (hm ad tc g h el u v sf) (pc + 3) lv (.int (u 35) :: rest)) : Ev p l e R s m args below meth c cells slots Q D A nL (hm ad tc g h el u v sf) pc lv (.ref (ad 0) :: rest) :=
  E_get C hd F 0 rfl rfl k
theorem mp_11_35 (C : Cx p R s m args c own cc nL D tc tt A d) {idx : Nat} {w : Int32} (hd : decode cc pc = .ok (.putfield idx, 3)) (F : FLw own idx 11 35 .int) (k : Ev p l e R s m args below meth c cells slots Q D A nL (hm ad tc g h el (va_up u 35 w) v sf) (pc + 3) lv rest) : Ev p l e R s m args below meth c cells slots Q D A nL (hm ad tc g h el u v sf) pc lv (.int w :: .ref (ad 0) :: rest) :=
  E_put C hd F 0 rfl rfl rfl (Nat.le_of_ble_eq_true rfl) rfl k
theorem mg_11_36 (C : Cx p R s m args c own cc nL D tc tt A d) {idx : Nat} {ty : FieldType} (hd : decode cc pc = .ok (.getfield idx, 3)) (F : FL own idx 11 36 ty) (k : Ev p l e R s m args below meth c cells slots Q D A nL (hm ad tc g h el u v sf) (pc + 3) lv (.int (u 36) :: rest)) : Ev p l e R s m args below meth c cells slots Q D A nL (hm ad tc g h el u v sf) pc lv (.ref (ad 0) :: rest) :=
  E_get C hd F 0 rfl rfl k
theorem mp_11_36 (C : Cx p R s m args c own cc nL D tc tt A d) {idx : Nat} {w : Int32} (hd : decode cc pc = .ok (.putfield idx, 3)) (F : FLw own idx 11 36 .int) (k : Ev p l e R s m args below meth c cells slots Q D A nL (hm ad tc g h el (va_up u 36 w) v sf) (pc + 3) lv rest) : Ev p l e R s m args below meth c cells slots Q D A nL (hm ad tc g h el u v sf) pc lv (.int w :: .ref (ad 0) :: rest) :=
  E_put C hd F 0 rfl rfl rfl (Nat.le_of_ble_eq_true rfl) rfl k
theorem mg_11_37 (C : Cx p R s m args c own cc nL D tc tt A d) {idx : Nat} {ty : FieldType} (hd : decode cc pc = .ok (.getfield idx, 3)) (F : FL own idx 11 37 ty) (k : Ev p l e R s m args below meth c cells slots Q D A nL (hm ad tc g h el u v sf) (pc + 3) lv (.ref (ad 20) :: rest)) : Ev p l e R s m args below meth c cells slots Q D A nL (hm ad tc g h el u v sf) pc lv (.ref (ad 0) :: rest) :=
  E_get C hd F 0 rfl rfl k
theorem mg_11_38 (C : Cx p R s m args c own cc nL D tc tt A d) {idx : Nat} {ty : FieldType} (hd : decode cc pc = .ok (.getfield idx, 3)) (F : FL own idx 11 38 ty) (k : Ev p l e R s m args below meth c cells slots Q D A nL (hm ad tc g h el u v sf) (pc + 3) lv (.ref (ad 21) :: rest)) : Ev p l e R s m args below meth c cells slots Q D A nL (hm ad tc g h el u v sf) pc lv (.ref (ad 0) :: rest) :=
  E_get C hd F 0 rfl rfl k
theorem mg_11_39 (C : Cx p R s m args c own cc nL D tc tt A d) {idx : Nat} {ty : FieldType} (hd : decode cc pc = .ok (.getfield idx, 3)) (F : FL own idx 11 39 ty) (k : Ev p l e R s m args below meth c cells slots Q D A nL (hm ad tc g h el u v sf) (pc + 3) lv (.ref (ad 22) :: rest)) : Ev p l e R s m args below meth c cells slots Q D A nL (hm ad tc g h el u v sf) pc lv (.ref (ad 0) :: rest) :=
  E_get C hd F 0 rfl rfl k
theorem mg_11_40 (C : Cx p R s m args c own cc nL D tc tt A d) {idx : Nat} {ty : FieldType} (hd : decode cc pc = .ok (.getfield idx, 3)) (F : FL own idx 11 40 ty) (k : Ev p l e R s m args below meth c cells slots Q D A nL (hm ad tc g h el u v sf) (pc + 3) lv (.ref (ad 23) :: rest)) : Ev p l e R s m args below meth c cells slots Q D A nL (hm ad tc g h el u v sf) pc lv (.ref (ad 0) :: rest) :=
  E_get C hd F 0 rfl rfl k
theorem mg_11_41 (C : Cx p R s m args c own cc nL D tc tt A d) {idx : Nat} {ty : FieldType} (hd : decode cc pc = .ok (.getfield idx, 3)) (F : FL own idx 11 41 ty) (k : Ev p l e R s m args below meth c cells slots Q D A nL (hm ad tc g h el u v sf) (pc + 3) lv (.int (u 41) :: rest)) : Ev p l e R s m args below meth c cells slots Q D A nL (hm ad tc g h el u v sf) pc lv (.ref (ad 0) :: rest) :=
  E_get C hd F 0 rfl rfl k
theorem mp_11_41 (C : Cx p R s m args c own cc nL D tc tt A d) {idx : Nat} {w : Int32} (hd : decode cc pc = .ok (.putfield idx, 3)) (F : FLw own idx 11 41 .int) (k : Ev p l e R s m args below meth c cells slots Q D A nL (hm ad tc g h el (va_up u 41 w) v sf) (pc + 3) lv rest) : Ev p l e R s m args below meth c cells slots Q D A nL (hm ad tc g h el u v sf) pc lv (.int w :: .ref (ad 0) :: rest) :=
  E_put C hd F 0 rfl rfl rfl (Nat.le_of_ble_eq_true rfl) rfl k
theorem mg_11_42 (C : Cx p R s m args c own cc nL D tc tt A d) {idx : Nat} {ty : FieldType} (hd : decode cc pc = .ok (.getfield idx, 3)) (F : FL own idx 11 42 ty) (k : Ev p l e R s m args below meth c cells slots Q D A nL (hm ad tc g h el u v sf) (pc + 3) lv (.ref (ad 24) :: rest)) : Ev p l e R s m args below meth c cells slots Q D A nL (hm ad tc g h el u v sf) pc lv (.ref (ad 0) :: rest) :=
  E_get C hd F 0 rfl rfl k
theorem mg_11_43 (C : Cx p R s m args c own cc nL D tc tt A d) {idx : Nat} {ty : FieldType} (hd : decode cc pc = .ok (.getfield idx, 3)) (F : FL own idx 11 43 ty) (k : Ev p l e R s m args below meth c cells slots Q D A nL (hm ad tc g h el u v sf) (pc + 3) lv (.ref (ad 25) :: rest)) : Ev p l e R s m args below meth c cells slots Q D A nL (hm ad tc g h el u v sf) pc lv (.ref (ad 0) :: rest) :=
  E_get C hd F 0 rfl rfl k
theorem mg_11_44 (C : Cx p R s m args c own cc nL D tc tt A d) {idx : Nat} {ty : FieldType} (hd : decode cc pc = .ok (.getfield idx, 3)) (F : FL own idx 11 44 ty) (k : Ev p l e R s m args below meth c cells slots Q D A nL (hm ad tc g h el u v sf) (pc + 3) lv (.int (g 44) :: rest)) : Ev p l e R s m args below meth c cells slots Q D A nL (hm ad tc g h el u v sf) pc lv (.ref (ad 0) :: rest) :=
  E_get C hd F 0 rfl rfl k
theorem mp_11_44 (C : Cx p R s m args c own cc nL D tc tt A d) {idx : Nat} {w : Int32} (hd : decode cc pc = .ok (.putfield idx, 3)) (F : FLw own idx 11 44 .boolean) (hn : narrow .boolean (.int w) = .int w) (hf : fits .boolean (.int w) = true) (k : Ev p l e R s m args below meth c cells slots Q D A nL (hm ad tc (va_up g 44 w) h el u v sf) (pc + 3) lv rest) : Ev p l e R s m args below meth c cells slots Q D A nL (hm ad tc g h el u v sf) pc lv (.int w :: .ref (ad 0) :: rest) :=
  E_put C hd F 0 rfl hn hf (Nat.le_of_ble_eq_true rfl) rfl k
theorem mg_11_45 (C : Cx p R s m args c own cc nL D tc tt A d) {idx : Nat} {ty : FieldType} (hd : decode cc pc = .ok (.getfield idx, 3)) (F : FL own idx 11 45 ty) (k : Ev p l e R s m args below meth c cells slots Q D A nL (hm ad tc g h el u v sf) (pc + 3) lv (.int (g 45) :: rest)) : Ev p l e R s m args below meth c cells slots Q D A nL (hm ad tc g h el u v sf) pc lv (.ref (ad 0) :: rest) :=
  E_get C hd F 0 rfl rfl k
theorem mp_11_45 (C : Cx p R s m args c own cc nL D tc tt A d) {idx : Nat} {w : Int32} (hd : decode cc pc = .ok (.putfield idx, 3)) (F : FLw own idx 11 45 .int) (k : Ev p l e R s m args below meth c cells slots Q D A nL (hm ad tc (va_up g 45 w) h el u v sf) (pc + 3) lv rest) : Ev p l e R s m args below meth c cells slots Q D A nL (hm ad tc g h el u v sf) pc lv (.int w :: .ref (ad 0) :: rest) :=
  E_put C hd F 0 rfl rfl rfl (Nat.le_of_ble_eq_true rfl) rfl k
theorem mg_11_46 (C : Cx p R s m args c own cc nL D tc tt A d) {idx : Nat} {ty : FieldType} (hd : decode cc pc = .ok (.getfield idx, 3)) (F : FL own idx 11 46 ty) (k : Ev p l e R s m args below meth c cells slots Q D A nL (hm ad tc g h el u v sf) (pc + 3) lv (.ref (ad 26) :: rest)) : Ev p l e R s m args below meth c cells slots Q D A nL (hm ad tc g h el u v sf) pc lv (.ref (ad 0) :: rest) :=
  E_get C hd F 0 rfl rfl k
theorem mg_11_47 (C : Cx p R s m args c own cc nL D tc tt A d) {idx : Nat} {ty : FieldType} (hd : decode cc pc = .ok (.getfield idx, 3)) (F : FL own idx 11 47 ty) (k : Ev p l e R s m args below meth c cells slots Q D A nL (hm ad tc g h el u v sf) (pc + 3) lv (.int (g 47) :: rest)) : Ev p l e R s m args below meth c cells slots Q D A nL (hm ad tc g h el u v sf) pc lv (.ref (ad 0) :: rest) :=
  E_get C hd F 0 rfl rfl k
theorem mp_11_47 (C : Cx p R s m args c own cc nL D tc tt A d) {idx : Nat} {w : Int32} (hd : decode cc pc = .ok (.putfield idx, 3)) (F : FLw own idx 11 47 .int) (k : Ev p l e R s m args below meth c cells slots Q D A nL (hm ad tc (va_up g 47 w) h el u v sf) (pc + 3) lv rest) : Ev p l e R s m args below meth c cells slots Q D A nL (hm ad tc g h el u v sf) pc lv (.int w :: .ref (ad 0) :: rest) :=
  E_put C hd F 0 rfl rfl rfl (Nat.le_of_ble_eq_true rfl) rfl k
theorem mg_11_48 (C : Cx p R s m args c own cc nL D tc tt A d) {idx : Nat} {ty : FieldType} (hd : decode cc pc = .ok (.getfield idx, 3)) (F : FL own idx 11 48 ty) (k : Ev p l e R s m args below meth c cells slots Q D A nL (hm ad tc g h el u v sf) (pc + 3) lv (.ref (ad 27) :: rest)) : Ev p l e R s m args below meth c cells slots Q D A nL (hm ad tc g h el u v sf) pc lv (.ref (ad 0) :: rest) :=
  E_get C hd F 0 rfl rfl k
theorem mg_11_49 (C : Cx p R s m args c own cc nL D tc tt A d) {idx : Nat} {ty : FieldType} (hd : decode cc pc = .ok (.getfield idx, 3)) (F : FL own idx 11 49 ty) (k : Ev p l e R s m args below meth c cells slots Q D A nL (hm ad tc g h el u v sf) (pc + 3) lv (.ref (ad 28) :: rest)) : Ev p l e R s m args below meth c cells slots Q D A nL (hm ad tc g h el u v sf) pc lv (.ref (ad 0) :: rest) :=
  E_get C hd F 0 rfl rfl k
theorem mg_11_50 (C : Cx p R s m args c own cc nL D tc tt A d) {idx : Nat} {ty : FieldType} (hd : decode cc pc = .ok (.getfield idx, 3)) (F : FL own idx 11 50 ty) (k : Ev p l e R s m args below meth c cells slots Q D A nL (hm ad tc g h el u v sf) (pc + 3) lv (.ref (ad 29) :: rest)) : Ev p l e R s m args below meth c cells slots Q D A nL (hm ad tc g h el u v sf) pc lv (.ref (ad 0) :: rest) :=
  E_get C hd F 0 rfl rfl k
theorem mg_11_51 (C : Cx p R s m args c own cc nL D tc tt A d) {idx : Nat} {ty : FieldType} (hd : decode cc pc = .ok (.getfield idx, 3)) (F : FL own idx 11 51 ty) (k : Ev p l e R s m args below meth c cells slots Q D A nL (hm ad tc g h el u v sf) (pc + 3) lv (.ref (ad 30) :: rest)) : Ev p l e R s m args below meth c cells slots Q D A nL (hm ad tc g h el u v sf) pc lv (.ref (ad 0) :: rest) :=
  E_get C hd F 0 rfl rfl k
theorem mg_11_52 (C : Cx p R s m args c own cc nL D tc tt A d) {idx : Nat} {ty : FieldType} (hd : decode cc pc = .ok (.getfield idx, 3)) (F : FL own idx 11 52 ty) (k : Ev p l e R s m args below meth c cells slots Q D A nL (hm ad tc g h el u v sf) (pc + 3) lv (.ref (ad 31) :: rest)) : Ev p l e R s m args below meth c cells slots Q D A nL (hm ad tc g h el u v sf) pc lv (.ref (ad 0) :: rest) :=
  E_get C hd F 0 rfl rfl k
theorem ma_1 (C : Cx p R s m args c own cc nL D tc tt A d) {i : Int32} (hd : decode cc pc = .ok (.iaload, 1)) (hin : vp_in i 8) (k : Ev p l e R s m args below meth c cells slots Q D A nL (hm ad tc g h el u v sf) (pc + 1) lv (.int (h 2 i.toNatClampNeg) :: rest)) : Ev p l e R s m args below meth c cells slots Q D A nL (hm ad tc g h el u v sf) pc lv (.int i :: .ref (ad 1) :: rest) :=
  E_iald C hd 1 rfl hin k
theorem ms_1 (C : Cx p R s m args c own cc nL D tc tt A d) {i : Int32} {w : Int32} (hd : decode cc pc = .ok (.iastore, 1)) (hin : vp_in i 8) (k : Ev p l e R s m args below meth c cells slots Q D A nL (hm ad tc g (va_up h 2 (upd (h 2) i.toNatClampNeg w)) el u v sf) (pc + 1) lv rest) : Ev p l e R s m args below meth c cells slots Q D A nL (hm ad tc g h el u v sf) pc lv (.int w :: .int i :: .ref (ad 1) :: rest) :=
  E_iast C hd 1 rfl hin rfl k
theorem mn_1 (C : Cx p R s m args c own cc nL D tc tt A d) (hd : decode cc pc = .ok (.arraylength, 1)) (k : Ev p l e R s m args below meth c cells slots Q D A nL (hm ad tc g h el u v sf) (pc + 1) lv (.int 8 :: rest)) : Ev p l e R s m args below meth c cells slots Q D A nL (hm ad tc g h el u v sf) pc lv (.ref (ad 1) :: rest) :=
  E_alen C hd 1 0 rfl rfl rfl k
theorem ma_2 (C : Cx p R s m args c own cc nL D tc tt A d) {i : Int32} (hd : decode cc pc = .ok (.iaload, 1)) (hin : vp_in i 8) (k : Ev p l e R s m args below meth c cells slots Q D A nL (hm ad tc g h el u v sf) (pc + 1) lv (.int (h 3 i.toNatClampNeg) :: rest)) : Ev p l e R s m args below meth c cells slots Q D A nL (hm ad tc g h el u v sf) pc lv (.int i :: .ref (ad 2) :: rest) :=
  E_iald C hd 2 rfl hin k
theorem ms_2 (C : Cx p R s m args c own cc nL D tc tt A d) {i : Int32} {w : Int32} (hd : decode cc pc = .ok (.iastore, 1)) (hin : vp_in i 8) (k : Ev p l e R s m args below meth c cells slots Q D A nL (hm ad tc g (va_up h 3 (upd (h 3) i.toNatClampNeg w)) el u v sf) (pc + 1) lv rest) : Ev p l e R s m args below meth c cells slots Q D A nL (hm ad tc g h el u v sf) pc lv (.int w :: .int i :: .ref (ad 2) :: rest) :=
  E_iast C hd 2 rfl hin rfl k
theorem mn_2 (C : Cx p R s m args c own cc nL D tc tt A d) (hd : decode cc pc = .ok (.arraylength, 1)) (k : Ev p l e R s m args below meth c cells slots Q D A nL (hm ad tc g h el u v sf) (pc + 1) lv (.int 8 :: rest)) : Ev p l e R s m args below meth c cells slots Q D A nL (hm ad tc g h el u v sf) pc lv (.ref (ad 2) :: rest) :=
  E_alen C hd 2 0 rfl rfl rfl k
theorem ma_3 (C : Cx p R s m args c own cc nL D tc tt A d) {i : Int32} (hd : decode cc pc = .ok (.iaload, 1)) (hin : vp_in i 8) (k : Ev p l e R s m args below meth c cells slots Q D A nL (hm ad tc g h el u v sf) (pc + 1) lv (.int (h 4 i.toNatClampNeg) :: rest)) : Ev p l e R s m args below meth c cells slots Q D A nL (hm ad tc g h el u v sf) pc lv (.int i :: .ref (ad 3) :: rest) :=
  E_iald C hd 3 rfl hin k
theorem ms_3 (C : Cx p R s m args c own cc nL D tc tt A d) {i : Int32} {w : Int32} (hd : decode cc pc = .ok (.iastore, 1)) (hin : vp_in i 8) (k : Ev p l e R s m args below meth c cells slots Q D A nL (hm ad tc g (va_up h 4 (upd (h 4) i.toNatClampNeg w)) el u v sf) (pc + 1) lv rest) : Ev p l e R s m args below meth c cells slots Q D A nL (hm ad tc g h el u v sf) pc lv (.int w :: .int i :: .ref (ad 3) :: rest) :=
  E_iast C hd 3 rfl hin rfl k
theorem mn_3 (C : Cx p R s m args c own cc nL D tc tt A d) (hd : decode cc pc = .ok (.arraylength, 1)) (k : Ev p l e R s m args below meth c cells slots Q D A nL (hm ad tc g h el u v sf) (pc + 1) lv (.int 8 :: rest)) : Ev p l e R s m args below meth c cells slots Q D A nL (hm ad tc g h el u v sf) pc lv (.ref (ad 3) :: rest) :=
  E_alen C hd 3 0 rfl rfl rfl k
theorem ma_4 (C : Cx p R s m args c own cc nL D tc tt A d) {i : Int32} (hd : decode cc pc = .ok (.iaload, 1)) (hin : vp_in i 8) (k : Ev p l e R s m args below meth c cells slots Q D A nL (hm ad tc g h el u v sf) (pc + 1) lv (.int (h 5 i.toNatClampNeg) :: rest)) : Ev p l e R s m args below meth c cells slots Q D A nL (hm ad tc g h el u v sf) pc lv (.int i :: .ref (ad 4) :: rest) :=
  E_iald C hd 4 rfl hin k
theorem ms_4 (C : Cx p R s m args c own cc nL D tc tt A d) {i : Int32} {w : Int32} (hd : decode cc pc = .ok (.iastore, 1)) (hin : vp_in i 8) (k : Ev p l e R s m args below meth c cells slots Q D A nL (hm ad tc g (va_up h 5 (upd (h 5) i.toNatClampNeg w)) el u v sf) (pc + 1) lv rest) : Ev p l e R s m args below meth c cells slots Q D A nL (hm ad tc g h el u v sf) pc lv (.int w :: .int i :: .ref (ad 4) :: rest) :=
  E_iast C hd 4 rfl hin rfl k
theorem mn_4 (C : Cx p R s m args c own cc nL D tc tt A d) (hd : decode cc pc = .ok (.arraylength, 1)) (k : Ev p l e R s m args below meth c cells slots Q D A nL (hm ad tc g h el u v sf) (pc + 1) lv (.int 8 :: rest)) : Ev p l e R s m args below meth c cells slots Q D A nL (hm ad tc g h el u v sf) pc lv (.ref (ad 4) :: rest) :=
  E_alen C hd 4 0 rfl rfl rfl k
theorem ma_5 (C : Cx p R s m args c own cc nL D tc tt A d) {i : Int32} (hd : decode cc pc = .ok (.iaload, 1)) (hin : vp_in i 8) (k : Ev p l e R s m args below meth c cells slots Q D A nL (hm ad tc g h el u v sf) (pc + 1) lv (.int (h 6 i.toNatClampNeg) :: rest)) : Ev p l e R s m args below meth c cells slots Q D A nL (hm ad tc g h el u v sf) pc lv (.int i :: .ref (ad 5) :: rest) :=
  E_iald C hd 5 rfl hin k
theorem ms_5 (C : Cx p R s m args c own cc nL D tc tt A d) {i : Int32} {w : Int32} (hd : decode cc pc = .ok (.iastore, 1)) (hin : vp_in i 8) (k : Ev p l e R s m args below meth c cells slots Q D A nL (hm ad tc g (va_up h 6 (upd (h 6) i.toNatClampNeg w)) el u v sf) (pc + 1) lv rest) : Ev p l e R s m args below meth c cells slots Q D A nL (hm ad tc g h el u v sf) pc lv (.int w :: .int i :: .ref (ad 5) :: rest) :=
  E_iast C hd 5 rfl hin rfl k
theorem mn_5 (C : Cx p R s m args c own cc nL D tc tt A d) (hd : decode cc pc = .ok (.arraylength, 1)) (k : Ev p l e R s m args below meth c cells slots Q D A nL (hm ad tc g h el u v sf) (pc + 1) lv (.int 8 :: rest)) : Ev p l e R s m args below meth c cells slots Q D A nL (hm ad tc g h el u v sf) pc lv (.ref (ad 5) :: rest) :=
  E_alen C hd 5 0 rfl rfl rfl k
theorem ma_6 (C : Cx p R s m args c own cc nL D tc tt A d) {i : Int32} (hd : decode cc pc = .ok (.iaload, 1)) (hin : vp_in i 6) (k : Ev p l e R s m args below meth c cells slots Q D A nL (hm ad tc g h el u v sf) (pc + 1) lv (.int (h 7 i.toNatClampNeg) :: rest)) : Ev p l e R s m args below meth c cells slots Q D A nL (hm ad tc g h el u v sf) pc lv (.int i :: .ref (ad 6) :: rest) :=
  E_iald C hd 6 rfl hin k
theorem ms_6 (C : Cx p R s m args c own cc nL D tc tt A d) {i : Int32} {w : Int32} (hd : decode cc pc = .ok (.iastore, 1)) (hin : vp_in i 6) (k : Ev p l e R s m args below meth c cells slots Q D A nL (hm ad tc g (va_up h 7 (upd (h 7) i.toNatClampNeg w)) el u v sf) (pc + 1) lv rest) : Ev p l e R s m args below meth c cells slots Q D A nL (hm ad tc g h el u v sf) pc lv (.int w :: .int i :: .ref (ad 6) :: rest) :=
  E_iast C hd 6 rfl hin rfl k
theorem mn_6 (C : Cx p R s m args c own cc nL D tc tt A d) (hd : decode cc pc = .ok (.arraylength, 1)) (k : Ev p l e R s m args below meth c cells slots Q D A nL (hm ad tc g h el u v sf) (pc + 1) lv (.int 6 :: rest)) : Ev p l e R s m args below meth c cells slots Q D A nL (hm ad tc g h el u v sf) pc lv (.ref (ad 6) :: rest) :=
  E_alen C hd 6 0 rfl rfl rfl k
theorem ma_7 (C : Cx p R s m args c own cc nL D tc tt A d) {i : Int32} (hd : decode cc pc = .ok (.iaload, 1)) (hin : vp_in i 6) (k : Ev p l e R s m args below meth c cells slots Q D A nL (hm ad tc g h el u v sf) (pc + 1) lv (.int (h 8 i.toNatClampNeg) :: rest)) : Ev p l e R s m args below meth c cells slots Q D A nL (hm ad tc g h el u v sf) pc lv (.int i :: .ref (ad 7) :: rest) :=
  E_iald C hd 7 rfl hin k
theorem ms_7 (C : Cx p R s m args c own cc nL D tc tt A d) {i : Int32} {w : Int32} (hd : decode cc pc = .ok (.iastore, 1)) (hin : vp_in i 6) (k : Ev p l e R s m args below meth c cells slots Q D A nL (hm ad tc g (va_up h 8 (upd (h 8) i.toNatClampNeg w)) el u v sf) (pc + 1) lv rest) : Ev p l e R s m args below meth c cells slots Q D A nL (hm ad tc g h el u v sf) pc lv (.int w :: .int i :: .ref (ad 7) :: rest) :=
  E_iast C hd 7 rfl hin rfl k
theorem mn_7 (C : Cx p R s m args c own cc nL D tc tt A d) (hd : decode cc pc = .ok (.arraylength, 1)) (k : Ev p l e R s m args below meth c cells slots Q D A nL (hm ad tc g h el u v sf) (pc + 1) lv (.int 6 :: rest)) : Ev p l e R s m args below meth c cells slots Q D A nL (hm ad tc g h el u v sf) pc lv (.ref (ad 7) :: rest) :=
  E_alen C hd 7 0 rfl rfl rfl k
theorem ma_8 (C : Cx p R s m args c own cc nL D tc tt A d) {i : Int32} (hd : decode cc pc = .ok (.iaload, 1)) (hin : vp_in i 40) (k : Ev p l e R s m args below meth c cells slots Q D A nL (hm ad tc g h el u v sf) (pc + 1) lv (.int (h 12 i.toNatClampNeg) :: rest)) : Ev p l e R s m args below meth c cells slots Q D A nL (hm ad tc g h el u v sf) pc lv (.int i :: .ref (ad 8) :: rest) :=
  E_iald C hd 8 rfl hin k
theorem ms_8 (C : Cx p R s m args c own cc nL D tc tt A d) {i : Int32} {w : Int32} (hd : decode cc pc = .ok (.iastore, 1)) (hin : vp_in i 40) (k : Ev p l e R s m args below meth c cells slots Q D A nL (hm ad tc g (va_up h 12 (upd (h 12) i.toNatClampNeg w)) el u v sf) (pc + 1) lv rest) : Ev p l e R s m args below meth c cells slots Q D A nL (hm ad tc g h el u v sf) pc lv (.int w :: .int i :: .ref (ad 8) :: rest) :=
  E_iast C hd 8 rfl hin rfl k
theorem mn_8 (C : Cx p R s m args c own cc nL D tc tt A d) (hd : decode cc pc = .ok (.arraylength, 1)) (k : Ev p l e R s m args below meth c cells slots Q D A nL (hm ad tc g h el u v sf) (pc + 1) lv (.int 40 :: rest)) : Ev p l e R s m args below meth c cells slots Q D A nL (hm ad tc g h el u v sf) pc lv (.ref (ad 8) :: rest) :=
  E_alen C hd 8 0 rfl rfl rfl k
theorem ma_9 (C : Cx p R s m args c own cc nL D tc tt A d) {i : Int32} (hd : decode cc pc = .ok (.iaload, 1)) (hin : vp_in i 40) (k : Ev p l e R s m args below meth c cells slots Q D A nL (hm ad tc g h el u v sf) (pc + 1) lv (.int (h 13 i.toNatClampNeg) :: rest)) : Ev p l e R s m args below meth c cells slots Q D A nL (hm ad tc g h el u v sf) pc lv (.int i :: .ref (ad 9) :: rest) :=
  E_iald C hd 9 rfl hin k
theorem ms_9 (C : Cx p R s m args c own cc nL D tc tt A d) {i : Int32} {w : Int32} (hd : decode cc pc = .ok (.iastore, 1)) (hin : vp_in i 40) (k : Ev p l e R s m args below meth c cells slots Q D A nL (hm ad tc g (va_up h 13 (upd (h 13) i.toNatClampNeg w)) el u v sf) (pc + 1) lv rest) : Ev p l e R s m args below meth c cells slots Q D A nL (hm ad tc g h el u v sf) pc lv (.int w :: .int i :: .ref (ad 9) :: rest) :=
  E_iast C hd 9 rfl hin rfl k
theorem mn_9 (C : Cx p R s m args c own cc nL D tc tt A d) (hd : decode cc pc = .ok (.arraylength, 1)) (k : Ev p l e R s m args below meth c cells slots Q D A nL (hm ad tc g h el u v sf) (pc + 1) lv (.int 40 :: rest)) : Ev p l e R s m args below meth c cells slots Q D A nL (hm ad tc g h el u v sf) pc lv (.ref (ad 9) :: rest) :=
  E_alen C hd 9 0 rfl rfl rfl k
theorem ma_10 (C : Cx p R s m args c own cc nL D tc tt A d) {i : Int32} (hd : decode cc pc = .ok (.iaload, 1)) (hin : vp_in i 40) (k : Ev p l e R s m args below meth c cells slots Q D A nL (hm ad tc g h el u v sf) (pc + 1) lv (.int (h 14 i.toNatClampNeg) :: rest)) : Ev p l e R s m args below meth c cells slots Q D A nL (hm ad tc g h el u v sf) pc lv (.int i :: .ref (ad 10) :: rest) :=
  E_iald C hd 10 rfl hin k
theorem ms_10 (C : Cx p R s m args c own cc nL D tc tt A d) {i : Int32} {w : Int32} (hd : decode cc pc = .ok (.iastore, 1)) (hin : vp_in i 40) (k : Ev p l e R s m args below meth c cells slots Q D A nL (hm ad tc g (va_up h 14 (upd (h 14) i.toNatClampNeg w)) el u v sf) (pc + 1) lv rest) : Ev p l e R s m args below meth c cells slots Q D A nL (hm ad tc g h el u v sf) pc lv (.int w :: .int i :: .ref (ad 10) :: rest) :=
  E_iast C hd 10 rfl hin rfl k
theorem mn_10 (C : Cx p R s m args c own cc nL D tc tt A d) (hd : decode cc pc = .ok (.arraylength, 1)) (k : Ev p l e R s m args below meth c cells slots Q D A nL (hm ad tc g h el u v sf) (pc + 1) lv (.int 40 :: rest)) : Ev p l e R s m args below meth c cells slots Q D A nL (hm ad tc g h el u v sf) pc lv (.ref (ad 10) :: rest) :=
  E_alen C hd 10 0 rfl rfl rfl k
theorem ma_11 (C : Cx p R s m args c own cc nL D tc tt A d) {i : Int32} (hd : decode cc pc = .ok (.iaload, 1)) (hin : vp_in i 40) (k : Ev p l e R s m args below meth c cells slots Q D A nL (hm ad tc g h el u v sf) (pc + 1) lv (.int (h 15 i.toNatClampNeg) :: rest)) : Ev p l e R s m args below meth c cells slots Q D A nL (hm ad tc g h el u v sf) pc lv (.int i :: .ref (ad 11) :: rest) :=
  E_iald C hd 11 rfl hin k
theorem ms_11 (C : Cx p R s m args c own cc nL D tc tt A d) {i : Int32} {w : Int32} (hd : decode cc pc = .ok (.iastore, 1)) (hin : vp_in i 40) (k : Ev p l e R s m args below meth c cells slots Q D A nL (hm ad tc g (va_up h 15 (upd (h 15) i.toNatClampNeg w)) el u v sf) (pc + 1) lv rest) : Ev p l e R s m args below meth c cells slots Q D A nL (hm ad tc g h el u v sf) pc lv (.int w :: .int i :: .ref (ad 11) :: rest) :=
  E_iast C hd 11 rfl hin rfl k
theorem mn_11 (C : Cx p R s m args c own cc nL D tc tt A d) (hd : decode cc pc = .ok (.arraylength, 1)) (k : Ev p l e R s m args below meth c cells slots Q D A nL (hm ad tc g h el u v sf) (pc + 1) lv (.int 40 :: rest)) : Ev p l e R s m args below meth c cells slots Q D A nL (hm ad tc g h el u v sf) pc lv (.ref (ad 11) :: rest) :=
  E_alen C hd 11 0 rfl rfl rfl k
theorem ma_12 (C : Cx p R s m args c own cc nL D tc tt A d) {i : Int32} (hd : decode cc pc = .ok (.baload, 1)) (hin : vp_in i 120) (k : Ev p l e R s m args below meth c cells slots Q D A nL (hm ad tc g h el u v sf) (pc + 1) lv (.int (h 16 i.toNatClampNeg) :: rest)) : Ev p l e R s m args below meth c cells slots Q D A nL (hm ad tc g h el u v sf) pc lv (.int i :: .ref (ad 12) :: rest) :=
  E_bald C hd 12 rfl hin k
theorem ms_12 (C : Cx p R s m args c own cc nL D tc tt A d) {i : Int32} {w : Int32} (hd : decode cc pc = .ok (.bastore, 1)) (hin : vp_in i 120) (k : Ev p l e R s m args below meth c cells slots Q D A nL (hm ad tc g (va_up h 16 (upd (h 16) i.toNatClampNeg (vp_nar .byte w))) el u v sf) (pc + 1) lv rest) : Ev p l e R s m args below meth c cells slots Q D A nL (hm ad tc g h el u v sf) pc lv (.int w :: .int i :: .ref (ad 12) :: rest) :=
  E_bast C hd 12 rfl hin rfl k
theorem mn_12 (C : Cx p R s m args c own cc nL D tc tt A d) (hd : decode cc pc = .ok (.arraylength, 1)) (k : Ev p l e R s m args below meth c cells slots Q D A nL (hm ad tc g h el u v sf) (pc + 1) lv (.int 120 :: rest)) : Ev p l e R s m args below meth c cells slots Q D A nL (hm ad tc g h el u v sf) pc lv (.ref (ad 12) :: rest) :=
  E_alen C hd 12 2 rfl rfl rfl k
theorem ma_13 (C : Cx p R s m args c own cc nL D tc tt A d) {i : Int32} (hd : decode cc pc = .ok (.baload, 1)) (hin : vp_in i 260) (k : Ev p l e R s m args below meth c cells slots Q D A nL (hm ad tc g h el u v sf) (pc + 1) lv (.int (h 22 i.toNatClampNeg) :: rest)) : Ev p l e R s m args below meth c cells slots Q D A nL (hm ad tc g h el u v sf) pc lv (.int i :: .ref (ad 13) :: rest) :=
  E_bald C hd 13 rfl hin k
theorem ms_13 (C : Cx p R s m args c own cc nL D tc tt A d) {i : Int32} {w : Int32} (hd : decode cc pc = .ok (.bastore, 1)) (hin : vp_in i 260) (k : Ev p l e R s m args below meth c cells slots Q D A nL (hm ad tc g (va_up h 22 (upd (h 22) i.toNatClampNeg (vp_nar .byte w))) el u v sf) (pc + 1) lv rest) : Ev p l e R s m args below meth c cells slots Q D A nL (hm ad tc g h el u v sf) pc lv (.int w :: .int i :: .ref (ad 13) :: rest) :=
  E_bast C hd 13 rfl hin rfl k
theorem mn_13 (C : Cx p R s m args c own cc nL D tc tt A d) (hd : decode cc pc = .ok (.arraylength, 1)) (k : Ev p l e R s m args below meth c cells slots Q D A nL (hm ad tc g h el u v sf) (pc + 1) lv (.int 260 :: rest)) : Ev p l e R s m args below meth c cells slots Q D A nL (hm ad tc g h el u v sf) pc lv (.ref (ad 13) :: rest) :=
  E_alen C hd 13 2 rfl rfl rfl k
theorem ma_14 (C : Cx p R s m args c own cc nL D tc tt A d) {i : Int32} (hd : decode cc pc = .ok (.iaload, 1)) (hin : vp_in i 260) (k : Ev p l e R s m args below meth c cells slots Q D A nL (hm ad tc g h el u v sf) (pc + 1) lv (.int (h 23 i.toNatClampNeg) :: rest)) : Ev p l e R s m args below meth c cells slots Q D A nL (hm ad tc g h el u v sf) pc lv (.int i :: .ref (ad 14) :: rest) :=
  E_iald C hd 14 rfl hin k
theorem ms_14 (C : Cx p R s m args c own cc nL D tc tt A d) {i : Int32} {w : Int32} (hd : decode cc pc = .ok (.iastore, 1)) (hin : vp_in i 260) (k : Ev p l e R s m args below meth c cells slots Q D A nL (hm ad tc g (va_up h 23 (upd (h 23) i.toNatClampNeg w)) el u v sf) (pc + 1) lv rest) : Ev p l e R s m args below meth c cells slots Q D A nL (hm ad tc g h el u v sf) pc lv (.int w :: .int i :: .ref (ad 14) :: rest) :=
  E_iast C hd 14 rfl hin rfl k
theorem mn_14 (C : Cx p R s m args c own cc nL D tc tt A d) (hd : decode cc pc = .ok (.arraylength, 1)) (k : Ev p l e R s m args below meth c cells slots Q D A nL (hm ad tc g h el u v sf) (pc + 1) lv (.int 260 :: rest)) : Ev p l e R s m args below meth c cells slots Q D A nL (hm ad tc g h el u v sf) pc lv (.ref (ad 14) :: rest) :=
  E_alen C hd 14 0 rfl rfl rfl k
theorem ma_15 (C : Cx p R s m args c own cc nL D tc tt A d) {i : Int32} (hd : decode cc pc = .ok (.iaload, 1)) (hin : vp_in i 2) (k : Ev p l e R s m args below meth c cells slots Q D A nL (hm ad tc g h el u v sf) (pc + 1) lv (.int (h 24 i.toNatClampNeg) :: rest)) : Ev p l e R s m args below meth c cells slots Q D A nL (hm ad tc g h el u v sf) pc lv (.int i :: .ref (ad 15) :: rest) :=
  E_iald C hd 15 rfl hin k
theorem ms_15 (C : Cx p R s m args c own cc nL D tc tt A d) {i : Int32} {w : Int32} (hd : decode cc pc = .ok (.iastore, 1)) (hin : vp_in i 2) (k : Ev p l e R s m args below meth c cells slots Q D A nL (hm ad tc g (va_up h 24 (upd (h 24) i.toNatClampNeg w)) el u v sf) (pc + 1) lv rest) : Ev p l e R s m args below meth c cells slots Q D A nL (hm ad tc g h el u v sf) pc lv (.int w :: .int i :: .ref (ad 15) :: rest) :=
  E_iast C hd 15 rfl hin rfl k
theorem mn_15 (C : Cx p R s m args c own cc nL D tc tt A d) (hd : decode cc pc = .ok (.arraylength, 1)) (k : Ev p l e R s m args below meth c cells slots Q D A nL (hm ad tc g h el u v sf) (pc + 1) lv (.int 2 :: rest)) : Ev p l e R s m args below meth c cells slots Q D A nL (hm ad tc g h el u v sf) pc lv (.ref (ad 15) :: rest) :=
  E_alen C hd 15 0 rfl rfl rfl k
theorem ma_16 (C : Cx p R s m args c own cc nL D tc tt A d) {i : Int32} (hd : decode cc pc = .ok (.saload, 1)) (hin : vp_in i 122) (k : Ev p l e R s m args below meth c cells slots Q D A nL (hm ad tc g h el u v sf) (pc + 1) lv (.int (h 25 i.toNatClampNeg) :: rest)) : Ev p l e R s m args below meth c cells slots Q D A nL (hm ad tc g h el u v sf) pc lv (.int i :: .ref (ad 16) :: rest) :=
  E_sald C hd 16 rfl hin k
theorem ms_16 (C : Cx p R s m args c own cc nL D tc tt A d) {i : Int32} {w : Int32} (hd : decode cc pc = .ok (.sastore, 1)) (hin : vp_in i 122) (k : Ev p l e R s m args below meth c cells slots Q D A nL (hm ad tc g (va_up h 25 (upd (h 25) i.toNatClampNeg (vp_nar .short w))) el u v sf) (pc + 1) lv rest) : Ev p l e R s m args below meth c cells slots Q D A nL (hm ad tc g h el u v sf) pc lv (.int w :: .int i :: .ref (ad 16) :: rest) :=
  E_sast C hd 16 rfl hin rfl k
theorem mn_16 (C : Cx p R s m args c own cc nL D tc tt A d) (hd : decode cc pc = .ok (.arraylength, 1)) (k : Ev p l e R s m args below meth c cells slots Q D A nL (hm ad tc g h el u v sf) (pc + 1) lv (.int 122 :: rest)) : Ev p l e R s m args below meth c cells slots Q D A nL (hm ad tc g h el u v sf) pc lv (.ref (ad 16) :: rest) :=
  E_alen C hd 16 3 rfl rfl rfl k
theorem ma_17 (C : Cx p R s m args c own cc nL D tc tt A d) {i : Int32} (hd : decode cc pc = .ok (.saload, 1)) (hin : vp_in i 122) (k : Ev p l e R s m args below meth c cells slots Q D A nL (hm ad tc g h el u v sf) (pc + 1) lv (.int (h 26 i.toNatClampNeg) :: rest)) : Ev p l e R s m args below meth c cells slots Q D A nL (hm ad tc g h el u v sf) pc lv (.int i :: .ref (ad 17) :: rest) :=
  E_sald C hd 17 rfl hin k
theorem ms_17 (C : Cx p R s m args c own cc nL D tc tt A d) {i : Int32} {w : Int32} (hd : decode cc pc = .ok (.sastore, 1)) (hin : vp_in i 122) (k : Ev p l e R s m args below meth c cells slots Q D A nL (hm ad tc g (va_up h 26 (upd (h 26) i.toNatClampNeg (vp_nar .short w))) el u v sf) (pc + 1) lv rest) : Ev p l e R s m args below meth c cells slots Q D A nL (hm ad tc g h el u v sf) pc lv (.int w :: .int i :: .ref (ad 17) :: rest) :=
  E_sast C hd 17 rfl hin rfl k
theorem mn_17 (C : Cx p R s m args c own cc nL D tc tt A d) (hd : decode cc pc = .ok (.arraylength, 1)) (k : Ev p l e R s m args below meth c cells slots Q D A nL (hm ad tc g h el u v sf) (pc + 1) lv (.int 122 :: rest)) : Ev p l e R s m args below meth c cells slots Q D A nL (hm ad tc g h el u v sf) pc lv (.ref (ad 17) :: rest) :=
  E_alen C hd 17 3 rfl rfl rfl k
theorem ma_18 (C : Cx p R s m args c own cc nL D tc tt A d) {i : Int32} (hd : decode cc pc = .ok (.iaload, 1)) (hin : vp_in i 5) (k : Ev p l e R s m args below meth c cells slots Q D A nL (hm ad tc g h el u v sf) (pc + 1) lv (.int (v 27 i.toNatClampNeg) :: rest)) : Ev p l e R s m args below meth c cells slots Q D A nL (hm ad tc g h el u v sf) pc lv (.int i :: .ref (ad 18) :: rest) :=
  E_iald C hd 18 rfl hin k
theorem ms_18 (C : Cx p R s m args c own cc nL D tc tt A d) {i : Int32} {w : Int32} (hd : decode cc pc = .ok (.iastore, 1)) (hin : vp_in i 5) (k : Ev p l e R s m args below meth c cells slots Q D A nL (hm ad tc g h el u (va_up v 27 (upd (v 27) i.toNatClampNeg w)) sf) (pc + 1) lv rest) : Ev p l e R s m args below meth c cells slots Q D A nL (hm ad tc g h el u v sf) pc lv (.int w :: .int i :: .ref (ad 18) :: rest) :=
  E_iast C hd 18 rfl hin rfl k
theorem mn_18 (C : Cx p R s m args c own cc nL D tc tt A d) (hd : decode cc pc = .ok (.arraylength, 1)) (k : Ev p l e R s m args below meth c cells slots Q D A nL (hm ad tc g h el u v sf) (pc + 1) lv (.int 5 :: rest)) : Ev p l e R s m args below meth c cells slots Q D A nL (hm ad tc g h el u v sf) pc lv (.ref (ad 18) :: rest) :=
  E_alen C hd 18 0 rfl rfl rfl k
theorem ma_19 (C : Cx p R s m args c own cc nL D tc tt A d) {i : Int32} (hd : decode cc pc = .ok (.iaload, 1)) (hin : vp_in i 130) (k : Ev p l e R s m args below meth c cells slots Q D A nL (hm ad tc g h el u v sf) (pc + 1) lv (.int (v 28 i.toNatClampNeg) :: rest)) : Ev p l e R s m args below meth c cells slots Q D A nL (hm ad tc g h el u v sf) pc lv (.int i :: .ref (ad 19) :: rest) :=
  E_iald C hd 19 rfl hin k
theorem ms_19 (C : Cx p R s m args c own cc nL D tc tt A d) {i : Int32} {w : Int32} (hd : decode cc pc = .ok (.iastore, 1)) (hin : vp_in i 130) (k : Ev p l e R s m args below meth c cells slots Q D A nL (hm ad tc g h el u (va_up v 28 (upd (v 28) i.toNatClampNeg w)) sf) (pc + 1) lv rest) : Ev p l e R s m args below meth c cells slots Q D A nL (hm ad tc g h el u v sf) pc lv (.int w :: .int i :: .ref (ad 19) :: rest) :=
  E_iast C hd 19 rfl hin rfl k
theorem mn_19 (C : Cx p R s m args c own cc nL D tc tt A d) (hd : decode cc pc = .ok (.arraylength, 1)) (k : Ev p l e R s m args below meth c cells slots Q D A nL (hm ad tc g h el u v sf) (pc + 1) lv (.int 130 :: rest)) : Ev p l e R s m args below meth c cells slots Q D A nL (hm ad tc g h el u v sf) pc lv (.ref (ad 19) :: rest) :=
  E_alen C hd 19 0 rfl rfl rfl k
theorem ma_20 (C : Cx p R s m args c own cc nL D tc tt A d) {i : Int32} (hd : decode cc pc = .ok (.iaload, 1)) (hin : vp_in i 8) (k : Ev p l e R s m args below meth c cells slots Q D A nL (hm ad tc g h el u v sf) (pc + 1) lv (.int (v 37 i.toNatClampNeg) :: rest)) : Ev p l e R s m args below meth c cells slots Q D A nL (hm ad tc g h el u v sf) pc lv (.int i :: .ref (ad 20) :: rest) :=
  E_iald C hd 20 rfl hin k
theorem ms_20 (C : Cx p R s m args c own cc nL D tc tt A d) {i : Int32} {w : Int32} (hd : decode cc pc = .ok (.iastore, 1)) (hin : vp_in i 8) (k : Ev p l e R s m args below meth c cells slots Q D A nL (hm ad tc g h el u (va_up v 37 (upd (v 37) i.toNatClampNeg w)) sf) (pc + 1) lv rest) : Ev p l e R s m args below meth c cells slots Q D A nL (hm ad tc g h el u v sf) pc lv (.int w :: .int i :: .ref (ad 20) :: rest) :=
  E_iast C hd 20 rfl hin rfl k
theorem mn_20 (C : Cx p R s m args c own cc nL D tc tt A d) (hd : decode cc pc = .ok (.arraylength, 1)) (k : Ev p l e R s m args below meth c cells slots Q D A nL (hm ad tc g h el u v sf) (pc + 1) lv (.int 8 :: rest)) : Ev p l e R s m args below meth c cells slots Q D A nL (hm ad tc g h el u v sf) pc lv (.ref (ad 20) :: rest) :=
  E_alen C hd 20 0 rfl rfl rfl k
theorem ma_21 (C : Cx p R s m args c own cc nL D tc tt A d) {i : Int32} (hd : decode cc pc = .ok (.iaload, 1)) (hin : vp_in i 8) (k : Ev p l e R s m args below meth c cells slots Q D A nL (hm ad tc g h el u v sf) (pc + 1) lv (.int (v 38 i.toNatClampNeg) :: rest)) : Ev p l e R s m args below meth c cells slots Q D A nL (hm ad tc g h el u v sf) pc lv (.int i :: .ref (ad 21) :: rest) :=
  E_iald C hd 21 rfl hin k
theorem ms_21 (C : Cx p R s m args c own cc nL D tc tt A d) {i : Int32} {w : Int32} (hd : decode cc pc = .ok (.iastore, 1)) (hin : vp_in i 8) (k : Ev p l e R s m args below meth c cells slots Q D A nL (hm ad tc g h el u (va_up v 38 (upd (v 38) i.toNatClampNeg w)) sf) (pc + 1) lv rest) : Ev p l e R s m args below meth c cells slots Q D A nL (hm ad tc g h el u v sf) pc lv (.int w :: .int i :: .ref (ad 21) :: rest) :=
  E_iast C hd 21 rfl hin rfl k
theorem mn_21 (C : Cx p R s m args c own cc nL D tc tt A d) (hd : decode cc pc = .ok (.arraylength, 1)) (k : Ev p l e R s m args below meth c cells slots Q D A nL (hm ad tc g h el u v sf) (pc + 1) lv (.int 8 :: rest)) : Ev p l e R s m args below meth c cells slots Q D A nL (hm ad tc g h el u v sf) pc lv (.ref (ad 21) :: rest) :=
  E_alen C hd 21 0 rfl rfl rfl k
theorem ma_22 (C : Cx p R s m args c own cc nL D tc tt A d) {i : Int32} (hd : decode cc pc = .ok (.iaload, 1)) (hin : vp_in i 8) (k : Ev p l e R s m args below meth c cells slots Q D A nL (hm ad tc g h el u v sf) (pc + 1) lv (.int (v 39 i.toNatClampNeg) :: rest)) : Ev p l e R s m args below meth c cells slots Q D A nL (hm ad tc g h el u v sf) pc lv (.int i :: .ref (ad 22) :: rest) :=
  E_iald C hd 22 rfl hin k
theorem ms_22 (C : Cx p R s m args c own cc nL D tc tt A d) {i : Int32} {w : Int32} (hd : decode cc pc = .ok (.iastore, 1)) (hin : vp_in i 8) (k : Ev p l e R s m args below meth c cells slots Q D A nL (hm ad tc g h el u (va_up v 39 (upd (v 39) i.toNatClampNeg w)) sf) (pc + 1) lv rest) : Ev p l e R s m args below meth c cells slots Q D A nL (hm ad tc g h el u v sf) pc lv (.int w :: .int i :: .ref (ad 22) :: rest) :=
  E_iast C hd 22 rfl hin rfl k
theorem mn_22 (C : Cx p R s m args c own cc nL D tc tt A d) (hd : decode cc pc = .ok (.arraylength, 1)) (k : Ev p l e R s m args below meth c cells slots Q D A nL (hm ad tc g h el u v sf) (pc + 1) lv (.int 8 :: rest)) : Ev p l e R s m args below meth c cells slots Q D A nL (hm ad tc g h el u v sf) pc lv (.ref (ad 22) :: rest) :=
  E_alen C hd 22 0 rfl rfl rfl k
theorem ma_23 (C : Cx p R s m args c own cc nL D tc tt A d) {i : Int32} (hd : decode cc pc = .ok (.iaload, 1)) (hin : vp_in i 256) (k : Ev p l e R s m args below meth c cells slots Q D A nL (hm ad tc g h el u v sf) (pc + 1) lv (.int (v 40 i.toNatClampNeg) :: rest)) : Ev p l e R s m args below meth c cells slots Q D A nL (hm ad tc g h el u v sf) pc lv (.int i :: .ref (ad 23) :: rest) :=
  E_iald C hd 23 rfl hin k
theorem ms_23 (C : Cx p R s m args c own cc nL D tc tt A d) {i : Int32} {w : Int32} (hd : decode cc pc = .ok (.iastore, 1)) (hin : vp_in i 256) (k : Ev p l e R s m args below meth c cells slots Q D A nL (hm ad tc g h el u (va_up v 40 (upd (v 40) i.toNatClampNeg w)) sf) (pc + 1) lv rest) : Ev p l e R s m args below meth c cells slots Q D A nL (hm ad tc g h el u v sf) pc lv (.int w :: .int i :: .ref (ad 23) :: rest) :=
  E_iast C hd 23 rfl hin rfl k
theorem mn_23 (C : Cx p R s m args c own cc nL D tc tt A d) (hd : decode cc pc = .ok (.arraylength, 1)) (k : Ev p l e R s m args below meth c cells slots Q D A nL (hm ad tc g h el u v sf) (pc + 1) lv (.int 256 :: rest)) : Ev p l e R s m args below meth c cells slots Q D A nL (hm ad tc g h el u v sf) pc lv (.ref (ad 23) :: rest) :=
  E_alen C hd 23 0 rfl rfl rfl k
theorem ma_24 (C : Cx p R s m args c own cc nL D tc tt A d) {i : Int32} (hd : decode cc pc = .ok (.iaload, 1)) (hin : vp_in i 9) (k : Ev p l e R s m args below meth c cells slots Q D A nL (hm ad tc g h el u v sf) (pc + 1) lv (.int (h 42 i.toNatClampNeg) :: rest)) : Ev p l e R s m args below meth c cells slots Q D A nL (hm ad tc g h el u v sf) pc lv (.int i :: .ref (ad 24) :: rest) :=
  E_iald C hd 24 rfl hin k
theorem ms_24 (C : Cx p R s m args c own cc nL D tc tt A d) {i : Int32} {w : Int32} (hd : decode cc pc = .ok (.iastore, 1)) (hin : vp_in i 9) (k : Ev p l e R s m args below meth c cells slots Q D A nL (hm ad tc g (va_up h 42 (upd (h 42) i.toNatClampNeg w)) el u v sf) (pc + 1) lv rest) : Ev p l e R s m args below meth c cells slots Q D A nL (hm ad tc g h el u v sf) pc lv (.int w :: .int i :: .ref (ad 24) :: rest) :=
  E_iast C hd 24 rfl hin rfl k
theorem mn_24 (C : Cx p R s m args c own cc nL D tc tt A d) (hd : decode cc pc = .ok (.arraylength, 1)) (k : Ev p l e R s m args below meth c cells slots Q D A nL (hm ad tc g h el u v sf) (pc + 1) lv (.int 9 :: rest)) : Ev p l e R s m args below meth c cells slots Q D A nL (hm ad tc g h el u v sf) pc lv (.ref (ad 24) :: rest) :=
  E_alen C hd 24 0 rfl rfl rfl k
theorem ma_25 (C : Cx p R s m args c own cc nL D tc tt A d) {i : Int32} (hd : decode cc pc = .ok (.iaload, 1)) (hin : vp_in i 9) (k : Ev p l e R s m args below meth c cells slots Q D A nL (hm ad tc g h el u v sf) (pc + 1) lv (.int (h 43 i.toNatClampNeg) :: rest)) : Ev p l e R s m args below meth c cells slots Q D A nL (hm ad tc g h el u v sf) pc lv (.int i :: .ref (ad 25) :: rest) :=
  E_iald C hd 25 rfl hin k
theorem ms_25 (C : Cx p R s m args c own cc nL D tc tt A d) {i : Int32} {w : Int32} (hd : decode cc pc = .ok (.iastore, 1)) (hin : vp_in i 9) (k : Ev p l e R s m args below meth c cells slots Q D A nL (hm ad tc g (va_up h 43 (upd (h 43) i.toNatClampNeg w)) el u v sf) (pc + 1) lv rest) : Ev p l e R s m args below meth c cells slots Q D A nL (hm ad tc g h el u v sf) pc lv (.int w :: .int i :: .ref (ad 25) :: rest) :=
  E_iast C hd 25 rfl hin rfl k
theorem mn_25 (C : Cx p R s m args c own cc nL D tc tt A d) (hd : decode cc pc = .ok (.arraylength, 1)) (k : Ev p l e R s m args below meth c cells slots Q D A nL (hm ad tc g h el u v sf) (pc + 1) lv (.int 9 :: rest)) : Ev p l e R s m args below meth c cells slots Q D A nL (hm ad tc g h el u v sf) pc lv (.ref (ad 25) :: rest) :=
  E_alen C hd 25 0 rfl rfl rfl k
theorem ma_26 (C : Cx p R s m args c own cc nL D tc tt A d) {i : Int32} (hd : decode cc pc = .ok (.iaload, 1)) (hin : vp_in i 50) (k : Ev p l e R s m args below meth c cells slots Q D A nL (hm ad tc g h el u v sf) (pc + 1) lv (.int (h 46 i.toNatClampNeg) :: rest)) : Ev p l e R s m args below meth c cells slots Q D A nL (hm ad tc g h el u v sf) pc lv (.int i :: .ref (ad 26) :: rest) :=
  E_iald C hd 26 rfl hin k
theorem ms_26 (C : Cx p R s m args c own cc nL D tc tt A d) {i : Int32} {w : Int32} (hd : decode cc pc = .ok (.iastore, 1)) (hin : vp_in i 50) (k : Ev p l e R s m args below meth c cells slots Q D A nL (hm ad tc g (va_up h 46 (upd (h 46) i.toNatClampNeg w)) el u v sf) (pc + 1) lv rest) : Ev p l e R s m args below meth c cells slots Q D A nL (hm ad tc g h el u v sf) pc lv (.int w :: .int i :: .ref (ad 26) :: rest) :=
  E_iast C hd 26 rfl hin rfl k
theorem mn_26 (C : Cx p R s m args c own cc nL D tc tt A d) (hd : decode cc pc = .ok (.arraylength, 1)) (k : Ev p l e R s m args below meth c cells slots Q D A nL (hm ad tc g h el u v sf) (pc + 1) lv (.int 50 :: rest)) : Ev p l e R s m args below meth c cells slots Q D A nL (hm ad tc g h el u v sf) pc lv (.ref (ad 26) :: rest) :=
  E_alen C hd 26 0 rfl rfl rfl k
theorem ma_27 (C : Cx p R s m args c own cc nL D tc tt A d) {i : Int32} (hd : decode cc pc = .ok (.iaload, 1)) (hin : vp_in i 24) (k : Ev p l e R s m args below meth c cells slots Q D A nL (hm ad tc g h el u v sf) (pc + 1) lv (.int (h 48 i.toNatClampNeg) :: rest)) : Ev p l e R s m args below meth c cells slots Q D A nL (hm ad tc g h el u v sf) pc lv (.int i :: .ref (ad 27) :: rest) :=
  E_iald C hd 27 rfl hin k
theorem ms_27 (C : Cx p R s m args c own cc nL D tc tt A d) {i : Int32} {w : Int32} (hd : decode cc pc = .ok (.iastore, 1)) (hin : vp_in i 24) (k : Ev p l e R s m args below meth c cells slots Q D A nL (hm ad tc g (va_up h 48 (upd (h 48) i.toNatClampNeg w)) el u v sf) (pc + 1) lv rest) : Ev p l e R s m args below meth c cells slots Q D A nL (hm ad tc g h el u v sf) pc lv (.int w :: .int i :: .ref (ad 27) :: rest) :=
  E_iast C hd 27 rfl hin rfl k
theorem mn_27 (C : Cx p R s m args c own cc nL D tc tt A d) (hd : decode cc pc = .ok (.arraylength, 1)) (k : Ev p l e R s m args below meth c cells slots Q D A nL (hm ad tc g h el u v sf) (pc + 1) lv (.int 24 :: rest)) : Ev p l e R s m args below meth c cells slots Q D A nL (hm ad tc g h el u v sf) pc lv (.ref (ad 27) :: rest) :=
  E_alen C hd 27 0 rfl rfl rfl k
theorem ma_28 (C : Cx p R s m args c own cc nL D tc tt A d) {i : Int32} (hd : decode cc pc = .ok (.iaload, 1)) (hin : vp_in i 6) (k : Ev p l e R s m args below meth c cells slots Q D A nL (hm ad tc g h el u v sf) (pc + 1) lv (.int (h 49 i.toNatClampNeg) :: rest)) : Ev p l e R s m args below meth c cells slots Q D A nL (hm ad tc g h el u v sf) pc lv (.int i :: .ref (ad 28) :: rest) :=
  E_iald C hd 28 rfl hin k
theorem ms_28 (C : Cx p R s m args c own cc nL D tc tt A d) {i : Int32} {w : Int32} (hd : decode cc pc = .ok (.iastore, 1)) (hin : vp_in i 6) (k : Ev p l e R s m args below meth c cells slots Q D A nL (hm ad tc g (va_up h 49 (upd (h 49) i.toNatClampNeg w)) el u v sf) (pc + 1) lv rest) : Ev p l e R s m args below meth c cells slots Q D A nL (hm ad tc g h el u v sf) pc lv (.int w :: .int i :: .ref (ad 28) :: rest) :=
  E_iast C hd 28 rfl hin rfl k
theorem mn_28 (C : Cx p R s m args c own cc nL D tc tt A d) (hd : decode cc pc = .ok (.arraylength, 1)) (k : Ev p l e R s m args below meth c cells slots Q D A nL (hm ad tc g h el u v sf) (pc + 1) lv (.int 6 :: rest)) : Ev p l e R s m args below meth c cells slots Q D A nL (hm ad tc g h el u v sf) pc lv (.ref (ad 28) :: rest) :=
  E_alen C hd 28 0 rfl rfl rfl k
theorem ma_29 (C : Cx p R s m args c own cc nL D tc tt A d) {i : Int32} (hd : decode cc pc = .ok (.iaload, 1)) (hin : vp_in i 6) (k : Ev p l e R s m args below meth c cells slots Q D A nL (hm ad tc g h el u v sf) (pc + 1) lv (.int (h 50 i.toNatClampNeg) :: rest)) : Ev p l e R s m args below meth c cells slots Q D A nL (hm ad tc g h el u v sf) pc lv (.int i :: .ref (ad 29) :: rest) :=
  E_iald C hd 29 rfl hin k
theorem ms_29 (C : Cx p R s m args c own cc nL D tc tt A d) {i : Int32} {w : Int32} (hd : decode cc pc = .ok (.iastore, 1)) (hin : vp_in i 6) (k : Ev p l e R s m args below meth c cells slots Q D A nL (hm ad tc g (va_up h 50 (upd (h 50) i.toNatClampNeg w)) el u v sf) (pc + 1) lv rest) : Ev p l e R s m args below meth c cells slots Q D A nL (hm ad tc g h el u v sf) pc lv (.int w :: .int i :: .ref (ad 29) :: rest) :=
  E_iast C hd 29 rfl hin rfl k
theorem mn_29 (C : Cx p R s m args c own cc nL D tc tt A d) (hd : decode cc pc = .ok (.arraylength, 1)) (k : Ev p l e R s m args below meth c cells slots Q D A nL (hm ad tc g h el u v sf) (pc + 1) lv (.int 6 :: rest)) : Ev p l e R s m args below meth c cells slots Q D A nL (hm ad tc g h el u v sf) pc lv (.ref (ad 29) :: rest) :=
  E_alen C hd 29 0 rfl rfl rfl k
theorem ma_30 (C : Cx p R s m args c own cc nL D tc tt A d) {i : Int32} (hd : decode cc pc = .ok (.laload, 1)) (hin : vp_in i 360) (k : Ev p l e R s m args below meth c cells slots Q D A nL (hm ad tc g h el u v sf) (pc + 1) lv (.long (el i.toNatClampNeg) :: rest)) : Ev p l e R s m args below meth c cells slots Q D A nL (hm ad tc g h el u v sf) pc lv (.int i :: .ref (ad 30) :: rest) :=
  E_lald C hd 30 rfl hin k
theorem ms_30 (C : Cx p R s m args c own cc nL D tc tt A d) {i : Int32} {w : Int64} (hd : decode cc pc = .ok (.lastore, 1)) (hin : vp_in i 360) (k : Ev p l e R s m args below meth c cells slots Q D A nL (hm ad tc g h ((vp_updL (el) i.toNatClampNeg w)) u v sf) (pc + 1) lv rest) : Ev p l e R s m args below meth c cells slots Q D A nL (hm ad tc g h el u v sf) pc lv (.long w :: .int i :: .ref (ad 30) :: rest) :=
  E_last C hd 30 rfl hin rfl k
theorem mn_30 (C : Cx p R s m args c own cc nL D tc tt A d) (hd : decode cc pc = .ok (.arraylength, 1)) (k : Ev p l e R s m args below meth c cells slots Q D A nL (hm ad tc g h el u v sf) (pc + 1) lv (.int 360 :: rest)) : Ev p l e R s m args below meth c cells slots Q D A nL (hm ad tc g h el u v sf) pc lv (.ref (ad 30) :: rest) :=
  E_alen C hd 30 1 rfl rfl rfl k
theorem ma_31 (C : Cx p R s m args c own cc nL D tc tt A d) {i : Int32} (hd : decode cc pc = .ok (.laload, 1)) (hin : vp_in i 60) (k : Ev p l e R s m args below meth c cells slots Q D A nL (hm ad tc g h el u v sf) (pc + 1) lv (.long (sf i.toNatClampNeg) :: rest)) : Ev p l e R s m args below meth c cells slots Q D A nL (hm ad tc g h el u v sf) pc lv (.int i :: .ref (ad 31) :: rest) :=
  E_lald C hd 31 rfl hin k
theorem ms_31 (C : Cx p R s m args c own cc nL D tc tt A d) {i : Int32} {w : Int64} (hd : decode cc pc = .ok (.lastore, 1)) (hin : vp_in i 60) (k : Ev p l e R s m args below meth c cells slots Q D A nL (hm ad tc g h el u v ((vp_updL (sf) i.toNatClampNeg w))) (pc + 1) lv rest) : Ev p l e R s m args below meth c cells slots Q D A nL (hm ad tc g h el u v sf) pc lv (.long w :: .int i :: .ref (ad 31) :: rest) :=
  E_last C hd 31 rfl hin rfl k
theorem mn_31 (C : Cx p R s m args c own cc nL D tc tt A d) (hd : decode cc pc = .ok (.arraylength, 1)) (k : Ev p l e R s m args below meth c cells slots Q D A nL (hm ad tc g h el u v sf) (pc + 1) lv (.int 60 :: rest)) : Ev p l e R s m args below meth c cells slots Q D A nL (hm ad tc g h el u v sf) pc lv (.ref (ad 31) :: rest) :=
  E_alen C hd 31 1 rfl rfl rfl k
end WORLD
end
section
/-! ends and calls by the kind of the answer; small constants; comparisons as numbers -/
def PI (P : Int32 → va_W → Prop) : Option Value → va_W → Prop := fun r w => ∃ x : Int32, r = some (.int x) ∧ P x w
def PL (P : Int64 → va_W → Prop) : Option Value → va_W → Prop := fun r w => ∃ x : Int64, r = some (.long x) ∧ P x w
def PV (P : va_W → Prop) : Option Value → va_W → Prop := fun r w => r = none ∧ P w
def PR (P : Value → va_W → Prop) : Option Value → va_W → Prop := fun r w => ∃ x : Value, r = some x ∧ P x w
section POST
variable {p : Program} {l : Launch} {e : Env} {R : Room} {s : State} {m : MethodId} {args : Array Value} {below : List Frame} {meth : Method} {c : Code} {cells slots : Nat} {Q : State → Prop} {D : va_G} {tc tt : Nat → Nat} {A : Nat → Prop} {own : String} {cc : ByteArray} {nL d pc : Nat} {lv : List (Nat × Value)} {rest : List Value} {ad : Nat → Nat} {ws : va_W} {a : Nat}
theorem E_callVI (C : Cx p R s m args c own cc nL D tc tt A d) {idx ci n np : Nat} {y : MethodName} {b : ByteArray} {ret : Option FieldType} {fs : List Value} {st : List Value} {P : Int32 → va_W → Prop} (hd : decode cc pc = .ok (.invokevirtual idx, 3)) (L : MV own idx ci y b n ret np) (q0 : Nat) {d' : Nat} (As : List Value) (hc : Ct l y b n ret d' D tc tt (.ref a :: As) ws (PI P)) (he : ws[q0]? = some (a, .inr (ci, fs))) (hst : st = As.reverse ++ .ref a :: rest) (hn : As.length = np) (hdp : d' + 1 ≤ d) (hrs : (rest.map fun v => v.category).sum ≤ 8)
    (kk : ∀ (x : Int32) (w : va_W), P x w → Ev p l e R s m args below meth c cells slots Q D A nL w (pc + 3) lv (.int x :: rest)) (hcs : cells ≤ R.cells ∧ slots ≤ R.slots := by exact ⟨Nat.zero_le _, Nat.zero_le _⟩) : Ev p l e R s m args below meth c cells slots Q D A nL ws pc lv st :=
  E_callV C hd L q0 As hc he hst hn hdp hrs (fun r w hp => by obtain ⟨x, rfl, h⟩ := hp; exact kk x w h) hcs
theorem E_callSI (C : Cx p R s m args c own cc nL D tc tt A d) {idx n np : Nat} {y : MethodName} {b : ByteArray} {ret : Option FieldType} {st : List Value} {P : Int32 → va_W → Prop} (hd : decode cc pc = .ok (.invokestatic idx, 3)) (L : MS own idx y b n ret np) {d' : Nat} (As : List Value) (hc : Ct l y b n ret d' D tc tt As ws (PI P)) (hst : st = As.reverse ++ rest) (hn : As.length = np) (hdp : d' + 1 ≤ d) (hrs : (rest.map fun v => v.category).sum ≤ 8)
    (kk : ∀ (x : Int32) (w : va_W), P x w → Ev p l e R s m args below meth c cells slots Q D A nL w (pc + 3) lv (.int x :: rest)) (hcs : cells ≤ R.cells ∧ slots ≤ R.slots := by exact ⟨Nat.zero_le _, Nat.zero_le _⟩) : Ev p l e R s m args below meth c cells slots Q D A nL ws pc lv st :=
  E_callS C hd L As hc hst hn hdp hrs (fun r w hp => by obtain ⟨x, rfl, h⟩ := hp; exact kk x w h) hcs
theorem E_callVL (C : Cx p R s m args c own cc nL D tc tt A d) {idx ci n np : Nat} {y : MethodName} {b : ByteArray} {ret : Option FieldType} {fs : List Value} {st : List Value} {P : Int64 → va_W → Prop} (hd : decode cc pc = .ok (.invokevirtual idx, 3)) (L : MV own idx ci y b n ret np) (q0 : Nat) {d' : Nat} (As : List Value) (hc : Ct l y b n ret d' D tc tt (.ref a :: As) ws (PL P)) (he : ws[q0]? = some (a, .inr (ci, fs))) (hst : st = As.reverse ++ .ref a :: rest) (hn : As.length = np) (hdp : d' + 1 ≤ d) (hrs : (rest.map fun v => v.category).sum ≤ 8)
    (kk : ∀ (x : Int64) (w : va_W), P x w → Ev p l e R s m args below meth c cells slots Q D A nL w (pc + 3) lv (.long x :: rest)) (hcs : cells ≤ R.cells ∧ slots ≤ R.slots := by exact ⟨Nat.zero_le _, Nat.zero_le _⟩) : Ev p l e R s m args below meth c cells slots Q D A nL ws pc lv st :=
  E_callV C hd L q0 As hc he hst hn hdp hrs (fun r w hp => by obtain ⟨x, rfl, h⟩ := hp; exact kk x w h) hcs
theorem E_callSL (C : Cx p R s m args c own cc nL D tc tt A d) {idx n np : Nat} {y : MethodName} {b : ByteArray} {ret : Option FieldType} {st : List Value} {P : Int64 → va_W → Prop} (hd : decode cc pc = .ok (.invokestatic idx, 3)) (L : MS own idx y b n ret np) {d' : Nat} (As : List Value) (hc : Ct l y b n ret d' D tc tt As ws (PL P)) (hst : st = As.reverse ++ rest) (hn : As.length = np) (hdp : d' + 1 ≤ d) (hrs : (rest.map fun v => v.category).sum ≤ 8)
    (kk : ∀ (x : Int64) (w : va_W), P x w → Ev p l e R s m args below meth c cells slots Q D A nL w (pc + 3) lv (.long x :: rest)) (hcs : cells ≤ R.cells ∧ slots ≤ R.slots := by exact ⟨Nat.zero_le _, Nat.zero_le _⟩) : Ev p l e R s m args below meth c cells slots Q D A nL ws pc lv st :=
  E_callS C hd L As hc hst hn hdp hrs (fun r w hp => by obtain ⟨x, rfl, h⟩ := hp; exact kk x w h) hcs
theorem E_callVR (C : Cx p R s m args c own cc nL D tc tt A d) {idx ci n np : Nat} {y : MethodName} {b : ByteArray} {ret : Option FieldType} {fs : List Value} {st : List Value} {P : Value → va_W → Prop} (hd : decode cc pc = .ok (.invokevirtual idx, 3)) (L : MV own idx ci y b n ret np) (q0 : Nat) {d' : Nat} (As : List Value) (hc : Ct l y b n ret d' D tc tt (.ref a :: As) ws (PR P)) (he : ws[q0]? = some (a, .inr (ci, fs))) (hst : st = As.reverse ++ .ref a :: rest) (hn : As.length = np) (hdp : d' + 1 ≤ d) (hrs : (rest.map fun v => v.category).sum ≤ 8)
    (kk : ∀ (x : Value) (w : va_W), P x w → Ev p l e R s m args below meth c cells slots Q D A nL w (pc + 3) lv (x :: rest)) (hcs : cells ≤ R.cells ∧ slots ≤ R.slots := by exact ⟨Nat.zero_le _, Nat.zero_le _⟩) : Ev p l e R s m args below meth c cells slots Q D A nL ws pc lv st :=
  E_callV C hd L q0 As hc he hst hn hdp hrs (fun r w hp => by obtain ⟨x, rfl, h⟩ := hp; exact kk x w h) hcs
theorem E_callSR (C : Cx p R s m args c own cc nL D tc tt A d) {idx n np : Nat} {y : MethodName} {b : ByteArray} {ret : Option FieldType} {st : List Value} {P : Value → va_W → Prop} (hd : decode cc pc = .ok (.invokestatic idx, 3)) (L : MS own idx y b n ret np) {d' : Nat} (As : List Value) (hc : Ct l y b n ret d' D tc tt As ws (PR P)) (hst : st = As.reverse ++ rest) (hn : As.length = np) (hdp : d' + 1 ≤ d) (hrs : (rest.map fun v => v.category).sum ≤ 8)
    (kk : ∀ (x : Value) (w : va_W), P x w → Ev p l e R s m args below meth c cells slots Q D A nL w (pc + 3) lv (x :: rest)) (hcs : cells ≤ R.cells ∧ slots ≤ R.slots := by exact ⟨Nat.zero_le _, Nat.zero_le _⟩) : Ev p l e R s m args below meth c cells slots Q D A nL ws pc lv st :=
  E_callS C hd L As hc hst hn hdp hrs (fun r w hp => by obtain ⟨x, rfl, h⟩ := hp; exact kk x w h) hcs
theorem E_callVV (C : Cx p R s m args c own cc nL D tc tt A d) {idx ci n np : Nat} {y : MethodName} {b : ByteArray} {ret : Option FieldType} {fs : List Value} {st : List Value} {P : va_W → Prop} (hd : decode cc pc = .ok (.invokevirtual idx, 3)) (L : MV own idx ci y b n ret np) (q0 : Nat) {d' : Nat} (As : List Value) (hc : Ct l y b n ret d' D tc tt (.ref a :: As) ws (PV P)) (he : ws[q0]? = some (a, .inr (ci, fs))) (hst : st = As.reverse ++ .ref a :: rest) (hn : As.length = np) (hdp : d' + 1 ≤ d) (hrs : (rest.map fun v => v.category).sum ≤ 8)
    (kk : ∀ (w : va_W), P w → Ev p l e R s m args below meth c cells slots Q D A nL w (pc + 3) lv rest) (hcs : cells ≤ R.cells ∧ slots ≤ R.slots := by exact ⟨Nat.zero_le _, Nat.zero_le _⟩) : Ev p l e R s m args below meth c cells slots Q D A nL ws pc lv st :=
  E_callV C hd L q0 As hc he hst hn hdp hrs (fun r w hp => by obtain ⟨rfl, h⟩ := hp; exact kk w h) hcs
theorem E_callSV (C : Cx p R s m args c own cc nL D tc tt A d) {idx n np : Nat} {y : MethodName} {b : ByteArray} {ret : Option FieldType} {st : List Value} {P : va_W → Prop} (hd : decode cc pc = .ok (.invokestatic idx, 3)) (L : MS own idx y b n ret np) {d' : Nat} (As : List Value) (hc : Ct l y b n ret d' D tc tt As ws (PV P)) (hst : st = As.reverse ++ rest) (hn : As.length = np) (hdp : d' + 1 ≤ d) (hrs : (rest.map fun v => v.category).sum ≤ 8)
    (kk : ∀ (w : va_W), P w → Ev p l e R s m args below meth c cells slots Q D A nL w (pc + 3) lv rest) (hcs : cells ≤ R.cells ∧ slots ≤ R.slots := by exact ⟨Nat.zero_le _, Nat.zero_le _⟩) : Ev p l e R s m args below meth c cells slots Q D A nL ws pc lv st :=
  E_callS C hd L As hc hst hn hdp hrs (fun r w hp => by obtain ⟨rfl, h⟩ := hp; exact kk w h) hcs
theorem E_iretI (C : Cx p R s m args c own cc nL D tc tt A d) {P : Int32 → va_W → Prop} {x : Int32} (hr : meth.sig.returnType = some .int) (hlocks : meth.locks = false) (hd : decode cc pc = .ok (.ireturn, 1)) (h : P x ws) : Ev p l e R s m args below meth c 0 0 (EQ below (PI P) args s D A) D A nL ws pc lv [.int x] := E_iret C hr hlocks hd ⟨x, rfl, h⟩
theorem E_zretI (C : Cx p R s m args c own cc nL D tc tt A d) {P : Int32 → va_W → Prop} {x : Int32} (hr : meth.sig.returnType = some .boolean) (hlocks : meth.locks = false) (hd : decode cc pc = .ok (.ireturn, 1)) (hn : narrow .boolean (.int x) = .int x) (h : P x ws) : Ev p l e R s m args below meth c 0 0 (EQ below (PI P) args s D A) D A nL ws pc lv [.int x] := E_zret C hr hlocks hd hn ⟨x, rfl, h⟩
theorem E_lretL (C : Cx p R s m args c own cc nL D tc tt A d) {P : Int64 → va_W → Prop} {x : Int64} (hr : meth.sig.returnType = some .long) (hlocks : meth.locks = false) (hd : decode cc pc = .ok (.lreturn, 1)) (h : P x ws) : Ev p l e R s m args below meth c 0 0 (EQ below (PL P) args s D A) D A nL ws pc lv [.long x] := E_lret C hr hlocks hd ⟨x, rfl, h⟩
theorem E_vretV (C : Cx p R s m args c own cc nL D tc tt A d) {P : va_W → Prop} (hr : meth.sig.returnType = none) (hlocks : meth.locks = false) (hd : decode cc pc = .ok (.return_, 1)) (h : P ws) : Ev p l e R s m args below meth c 0 0 (EQ below (PV P) args s D A) D A nL ws pc lv [] := E_vret C hr hlocks hd ⟨rfl, h⟩
theorem E_aretR (C : Cx p R s m args c own cc nL D tc tt A d) {P : Value → va_W → Prop} {v : Value} {rt : FieldType} (hr : meth.sig.returnType = some rt) (hrt : (∃ n, rt = .object n) ∨ ∃ t, rt = .array t) (hv : v = .null ∨ ∃ a, v = .ref a) (hlocks : meth.locks = false) (hd : decode cc pc = .ok (.areturn, 1)) (h : P v ws) : Ev p l e R s m args below meth c 0 0 (EQ below (PR P) args s D A) D A nL ws pc lv [v] := E_aret C hr hrt hv hlocks hd ⟨v, rfl, h⟩
end POST
theorem ic_m1 : Int32.ofInt (-1) = (-1 : Int32) := by decide
theorem ic_0 : Int32.ofInt (0) = (0 : Int32) := by decide
theorem ic_1 : Int32.ofInt (1) = (1 : Int32) := by decide
theorem ic_2 : Int32.ofInt (2) = (2 : Int32) := by decide
theorem ic_3 : Int32.ofInt (3) = (3 : Int32) := by decide
theorem ic_4 : Int32.ofInt (4) = (4 : Int32) := by decide
theorem ic_5 : Int32.ofInt (5) = (5 : Int32) := by decide
theorem bp_m100 : (Int8.ofInt (-100)).toInt32 = (-100 : Int32) := by decide
theorem bp_m14 : (Int8.ofInt (-14)).toInt32 = (-14 : Int32) := by decide
theorem bp_m13 : (Int8.ofInt (-13)).toInt32 = (-13 : Int32) := by decide
theorem bp_m12 : (Int8.ofInt (-12)).toInt32 = (-12 : Int32) := by decide
theorem bp_m11 : (Int8.ofInt (-11)).toInt32 = (-11 : Int32) := by decide
theorem bp_m5 : (Int8.ofInt (-5)).toInt32 = (-5 : Int32) := by decide
theorem bp_m3 : (Int8.ofInt (-3)).toInt32 = (-3 : Int32) := by decide
theorem bp_m2 : (Int8.ofInt (-2)).toInt32 = (-2 : Int32) := by decide
theorem bp_6 : (Int8.ofInt (6)).toInt32 = (6 : Int32) := by decide
theorem bp_7 : (Int8.ofInt (7)).toInt32 = (7 : Int32) := by decide
theorem bp_8 : (Int8.ofInt (8)).toInt32 = (8 : Int32) := by decide
theorem bp_9 : (Int8.ofInt (9)).toInt32 = (9 : Int32) := by decide
theorem bp_10 : (Int8.ofInt (10)).toInt32 = (10 : Int32) := by decide
theorem bp_11 : (Int8.ofInt (11)).toInt32 = (11 : Int32) := by decide
theorem bp_12 : (Int8.ofInt (12)).toInt32 = (12 : Int32) := by decide
theorem bp_16 : (Int8.ofInt (16)).toInt32 = (16 : Int32) := by decide
theorem bp_20 : (Int8.ofInt (20)).toInt32 = (20 : Int32) := by decide
theorem bp_24 : (Int8.ofInt (24)).toInt32 = (24 : Int32) := by decide
theorem bp_30 : (Int8.ofInt (30)).toInt32 = (30 : Int32) := by decide
theorem bp_32 : (Int8.ofInt (32)).toInt32 = (32 : Int32) := by decide
theorem bp_33 : (Int8.ofInt (33)).toInt32 = (33 : Int32) := by decide
theorem bp_37 : (Int8.ofInt (37)).toInt32 = (37 : Int32) := by decide
theorem bp_38 : (Int8.ofInt (38)).toInt32 = (38 : Int32) := by decide
theorem bp_39 : (Int8.ofInt (39)).toInt32 = (39 : Int32) := by decide
theorem bp_40 : (Int8.ofInt (40)).toInt32 = (40 : Int32) := by decide
theorem bp_41 : (Int8.ofInt (41)).toInt32 = (41 : Int32) := by decide
theorem bp_42 : (Int8.ofInt (42)).toInt32 = (42 : Int32) := by decide
theorem bp_43 : (Int8.ofInt (43)).toInt32 = (43 : Int32) := by decide
theorem bp_45 : (Int8.ofInt (45)).toInt32 = (45 : Int32) := by decide
theorem bp_47 : (Int8.ofInt (47)).toInt32 = (47 : Int32) := by decide
theorem bp_48 : (Int8.ofInt (48)).toInt32 = (48 : Int32) := by decide
theorem bp_50 : (Int8.ofInt (50)).toInt32 = (50 : Int32) := by decide
theorem bp_57 : (Int8.ofInt (57)).toInt32 = (57 : Int32) := by decide
theorem bp_59 : (Int8.ofInt (59)).toInt32 = (59 : Int32) := by decide
theorem bp_60 : (Int8.ofInt (60)).toInt32 = (60 : Int32) := by decide
theorem bp_61 : (Int8.ofInt (61)).toInt32 = (61 : Int32) := by decide
theorem bp_62 : (Int8.ofInt (62)).toInt32 = (62 : Int32) := by decide
theorem bp_63 : (Int8.ofInt (63)).toInt32 = (63 : Int32) := by decide
theorem bp_70 : (Int8.ofInt (70)).toInt32 = (70 : Int32) := by decide
theorem bp_80 : (Int8.ofInt (80)).toInt32 = (80 : Int32) := by decide
theorem bp_81 : (Int8.ofInt (81)).toInt32 = (81 : Int32) := by decide
theorem bp_99 : (Int8.ofInt (99)).toInt32 = (99 : Int32) := by decide
theorem bp_100 : (Int8.ofInt (100)).toInt32 = (100 : Int32) := by decide
theorem bp_110 : (Int8.ofInt (110)).toInt32 = (110 : Int32) := by decide
theorem bp_120 : (Int8.ofInt (120)).toInt32 = (120 : Int32) := by decide
theorem bp_122 : (Int8.ofInt (122)).toInt32 = (122 : Int32) := by decide
theorem bp_124 : (Int8.ofInt (124)).toInt32 = (124 : Int32) := by decide
theorem bp_126 : (Int8.ofInt (126)).toInt32 = (126 : Int32) := by decide
theorem sp_128 : (Int16.ofInt (128)).toInt32 = (128 : Int32) := by decide
theorem sp_130 : (Int16.ofInt (130)).toInt32 = (130 : Int32) := by decide
theorem sp_144 : (Int16.ofInt (144)).toInt32 = (144 : Int32) := by decide
theorem sp_200 : (Int16.ofInt (200)).toInt32 = (200 : Int32) := by decide
theorem sp_255 : (Int16.ofInt (255)).toInt32 = (255 : Int32) := by decide
theorem sp_256 : (Int16.ofInt (256)).toInt32 = (256 : Int32) := by decide
theorem sp_260 : (Int16.ofInt (260)).toInt32 = (260 : Int32) := by decide
theorem sp_360 : (Int16.ofInt (360)).toInt32 = (360 : Int32) := by decide
theorem sp_12345 : (Int16.ofInt (12345)).toInt32 = (12345 : Int32) := by decide
theorem tl_m100 : (-100 : Int32).toInt = -100 := by decide
theorem tl_m14 : (-14 : Int32).toInt = -14 := by decide
theorem tl_m13 : (-13 : Int32).toInt = -13 := by decide
theorem tl_m12 : (-12 : Int32).toInt = -12 := by decide
theorem tl_m11 : (-11 : Int32).toInt = -11 := by decide
theorem tl_m5 : (-5 : Int32).toInt = -5 := by decide
theorem tl_m3 : (-3 : Int32).toInt = -3 := by decide
theorem tl_m2 : (-2 : Int32).toInt = -2 := by decide
theorem tl_m1 : (-1 : Int32).toInt = -1 := by decide
theorem tl_0 : (0 : Int32).toInt = 0 := by decide
theorem tl_1 : (1 : Int32).toInt = 1 := by decide
theorem tl_2 : (2 : Int32).toInt = 2 := by decide
theorem tl_3 : (3 : Int32).toInt = 3 := by decide
theorem tl_4 : (4 : Int32).toInt = 4 := by decide
theorem tl_5 : (5 : Int32).toInt = 5 := by decide
theorem tl_6 : (6 : Int32).toInt = 6 := by decide
theorem tl_7 : (7 : Int32).toInt = 7 := by decide
theorem tl_8 : (8 : Int32).toInt = 8 := by decide
theorem tl_9 : (9 : Int32).toInt = 9 := by decide
theorem tl_10 : (10 : Int32).toInt = 10 := by decide
theorem tl_11 : (11 : Int32).toInt = 11 := by decide
theorem tl_12 : (12 : Int32).toInt = 12 := by decide
theorem tl_13 : (13 : Int32).toInt = 13 := by decide
theorem tl_14 : (14 : Int32).toInt = 14 := by decide
theorem tl_15 : (15 : Int32).toInt = 15 := by decide
theorem tl_16 : (16 : Int32).toInt = 16 := by decide
theorem tl_17 : (17 : Int32).toInt = 17 := by decide
theorem tl_18 : (18 : Int32).toInt = 18 := by decide
theorem tl_19 : (19 : Int32).toInt = 19 := by decide
theorem tl_20 : (20 : Int32).toInt = 20 := by decide
theorem tl_21 : (21 : Int32).toInt = 21 := by decide
theorem tl_22 : (22 : Int32).toInt = 22 := by decide
theorem tl_23 : (23 : Int32).toInt = 23 := by decide
theorem tl_24 : (24 : Int32).toInt = 24 := by decide
theorem tl_25 : (25 : Int32).toInt = 25 := by decide
theorem tl_26 : (26 : Int32).toInt = 26 := by decide
theorem tl_27 : (27 : Int32).toInt = 27 := by decide
theorem tl_28 : (28 : Int32).toInt = 28 := by decide
theorem tl_29 : (29 : Int32).toInt = 29 := by decide
theorem tl_30 : (30 : Int32).toInt = 30 := by decide
theorem tl_31 : (31 : Int32).toInt = 31 := by decide
theorem tl_32 : (32 : Int32).toInt = 32 := by decide
theorem tl_33 : (33 : Int32).toInt = 33 := by decide
theorem tl_34 : (34 : Int32).toInt = 34 := by decide
theorem tl_35 : (35 : Int32).toInt = 35 := by decide
theorem tl_36 : (36 : Int32).toInt = 36 := by decide
theorem tl_37 : (37 : Int32).toInt = 37 := by decide
theorem tl_38 : (38 : Int32).toInt = 38 := by decide
theorem tl_39 : (39 : Int32).toInt = 39 := by decide
theorem tl_40 : (40 : Int32).toInt = 40 := by decide
theorem tl_41 : (41 : Int32).toInt = 41 := by decide
theorem tl_42 : (42 : Int32).toInt = 42 := by decide
theorem tl_43 : (43 : Int32).toInt = 43 := by decide
theorem tl_44 : (44 : Int32).toInt = 44 := by decide
theorem tl_45 : (45 : Int32).toInt = 45 := by decide
theorem tl_46 : (46 : Int32).toInt = 46 := by decide
theorem tl_47 : (47 : Int32).toInt = 47 := by decide
theorem tl_48 : (48 : Int32).toInt = 48 := by decide
theorem tl_49 : (49 : Int32).toInt = 49 := by decide
theorem tl_50 : (50 : Int32).toInt = 50 := by decide
theorem tl_51 : (51 : Int32).toInt = 51 := by decide
theorem tl_52 : (52 : Int32).toInt = 52 := by decide
theorem tl_53 : (53 : Int32).toInt = 53 := by decide
theorem tl_54 : (54 : Int32).toInt = 54 := by decide
theorem tl_55 : (55 : Int32).toInt = 55 := by decide
theorem tl_56 : (56 : Int32).toInt = 56 := by decide
theorem tl_57 : (57 : Int32).toInt = 57 := by decide
theorem tl_58 : (58 : Int32).toInt = 58 := by decide
theorem tl_59 : (59 : Int32).toInt = 59 := by decide
theorem tl_60 : (60 : Int32).toInt = 60 := by decide
theorem tl_61 : (61 : Int32).toInt = 61 := by decide
theorem tl_62 : (62 : Int32).toInt = 62 := by decide
theorem tl_63 : (63 : Int32).toInt = 63 := by decide
theorem tl_64 : (64 : Int32).toInt = 64 := by decide
theorem tl_70 : (70 : Int32).toInt = 70 := by decide
theorem tl_80 : (80 : Int32).toInt = 80 := by decide
theorem tl_81 : (81 : Int32).toInt = 81 := by decide
theorem tl_99 : (99 : Int32).toInt = 99 := by decide
theorem tl_100 : (100 : Int32).toInt = 100 := by decide
theorem tl_110 : (110 : Int32).toInt = 110 := by decide
theorem tl_120 : (120 : Int32).toInt = 120 := by decide
theorem tl_122 : (122 : Int32).toInt = 122 := by decide
theorem tl_124 : (124 : Int32).toInt = 124 := by decide
theorem tl_126 : (126 : Int32).toInt = 126 := by decide
theorem tl_128 : (128 : Int32).toInt = 128 := by decide
theorem tl_130 : (130 : Int32).toInt = 130 := by decide
theorem tl_144 : (144 : Int32).toInt = 144 := by decide
theorem tl_200 : (200 : Int32).toInt = 200 := by decide
theorem tl_255 : (255 : Int32).toInt = 255 := by decide
theorem tl_256 : (256 : Int32).toInt = 256 := by decide
theorem tl_260 : (260 : Int32).toInt = 260 := by decide
theorem tl_360 : (360 : Int32).toInt = 360 := by decide
theorem tl_12345 : (12345 : Int32).toInt = 12345 := by decide
theorem ntoi {x k : Int32} {n : Int} (hk : k.toInt = n) (h : ¬ x = k) : ¬ x.toInt = n := fun q => h (Int32.toInt_inj.mp (q.trans hk.symm))
theorem i32_eq {a b : Int32} : a = b ↔ a.toInt = b.toInt := Int32.toInt_inj.symm
theorem vinN {k N : Nat} (h : k < N) (hN : N < 2 ^ 31 := by decide) : vp_in (nI k) N := vp_in_nI h hN
theorem clN {k : Nat} (h : k < 2 ^ 31) : (nI k).toNatClampNeg = k := nI_clamp h
end
